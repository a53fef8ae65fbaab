/-! ===== what a state of the sheet is: component, place -> number. 0 how, 1 dull, 2 size, 3 round chosen + 1 (0 never), 4 marks (each editor's two bits), 5 points, 6 arguments, 7 lifted, 8 favourites, 9 settings, 10 rounds paper taken, 11 prints ===== -/
def updN (f : Nat → Nat) (k v : Nat) : Nat → Nat := fun j => if j = k then v else f j
def pm_st (S : Nat → Nat → Nat) (c k v : Nat) : Nat → Nat → Nat := fun d => if d = c then updN (S d) k v else S d
def pm_tk (m : Nat) : Nat := (if m % 4 = 1 then 1 else 0) + (if m / 4 % 4 = 1 then 2 else 0) + (if m / 16 % 4 = 1 then 4 else 0)
def pm_ck (m : Nat) : Nat := (if m % 4 = 2 then 1 else 0) + (if m / 4 % 4 = 2 then 2 else 0) + (if m / 16 % 4 = 2 then 4 else 0)
def pm_mk (m e : Nat) : Nat := m / 4 ^ e % 4
def pm_sm (m e v : Nat) : Nat := m + v * 4 ^ e - pm_mk m e * 4 ^ e
def pm_okb (m : Nat) : Bool := decide (m < 64) && (decide (m % 4 < 3) && (decide (m / 4 % 4 < 3) && decide (m / 16 % 4 < 3)))
def pm_pc (x : Nat) : Nat := x % 2 + x / 2 % 2 + x / 4 % 2
def pm_ci (x : Nat) : Int32 := if x = 0 then -6 else nI (x - 1)
def pm_ix (x : Int32) (n : Nat) : Option Nat := if x < 0 ∨ nI n ≤ x then none else some x.toNatClampNeg
theorem pm_ix_in {j n : Nat} (h : j < n) (hn : n < 2 ^ 31) : pm_ix (nI j) n = some j := by
  unfold pm_ix
  rw [if_neg, nI_clamp (Nat.lt_trans h hn)]
  rintro (z | z)
  · exact nI_pos (Nat.lt_trans h hn) z
  · exact absurd ((nI_leI hn (Nat.lt_trans h hn)).mp z) (by omega)
theorem pm_ix_out {x : Int32} {n : Nat} (h : x < 0 ∨ nI n ≤ x) : pm_ix x n = none := by
  unfold pm_ix
  rw [if_pos h]
theorem pm_rin {x : Int32} {n : Nat} (hn : n < 2 ^ 31) (h1 : ¬ x < 0) (h2 : ¬ nI n ≤ x) : ∃ j, j < n ∧ x = nI j := by
  rcases pk_ix x hn with h | h | ⟨j, hj, e⟩
  · exact absurd h h1
  · exact absurd h h2
  · exact ⟨j, hj, e⟩
theorem pm_lead {x : Int32} {n : Nat} (h : x < 0 ∨ nI (n + 1) ≤ x) (hn : n + 1 < 2 ^ 31) (h1 : ¬ x < 0) (h2 : x ≤ nI n) : False := by
  rcases h with h | h
  · exact h1 h
  · have a := Int32.le_iff_toInt_le.mp h
    have b := Int32.le_iff_toInt_le.mp h2
    rw [nI_toInt hn] at a
    rw [nI_toInt (by omega)] at b
    omega
theorem pm_lt4 (m e : Nat) : pm_mk m e < 4 := Nat.mod_lt _ (by decide)
theorem pm_tk8 (m : Nat) : pm_tk m < 8 := by
  unfold pm_tk
  split <;> split <;> split <;> decide
theorem pm_ck8 (m : Nat) : pm_ck m < 8 := by
  unfold pm_ck
  split <;> split <;> split <;> decide
theorem pm_bit : ∀ i, i < 3 → nI 1 <<< (nI i &&& 31) = nI (2 ^ i) := by decide +kernel
theorem pm_okb64 {m : Nat} (h : pm_okb m = true) : m < 64 := by
  simp only [pm_okb, Bool.and_eq_true, decide_eq_true_eq] at h
  exact h.1
theorem pm_T1 : ∀ m, m < 64 → pm_okb m = true → ∀ i, i < 3 → (nI (pm_tk m) &&& nI (2 ^ i) = 0 ↔ ¬ pm_mk m i = 1) ∧ (nI (pm_ck m) &&& nI (2 ^ i) = 0 ↔ ¬ pm_mk m i = 2) ∧ pm_mk m i < 3 := by decide +kernel
theorem pm_tkbit {m i : Nat} (h : pm_okb m = true) (hi : i < 3) : nI (pm_tk m) &&& nI (2 ^ i) = 0 ↔ ¬ pm_mk m i = 1 := (pm_T1 m (pm_okb64 h) h i hi).1
theorem pm_ckbit {m i : Nat} (h : pm_okb m = true) (hi : i < 3) : nI (pm_ck m) &&& nI (2 ^ i) = 0 ↔ ¬ pm_mk m i = 2 := (pm_T1 m (pm_okb64 h) h i hi).2.1
theorem pm_mk3 {m i : Nat} (h : pm_okb m = true) (hi : i < 3) : pm_mk m i < 3 := (pm_T1 m (pm_okb64 h) h i hi).2.2
def pm_we (x y b : Int32) : Int32 := if b = 0 then x &&& ((nI 1 <<< (y &&& 31)) ^^^ (-1)) else x ||| (nI 1 <<< (y &&& 31))
def pm_T2b (m i v : Nat) : Bool := !(pm_okb m) || (decide (pm_we (nI (pm_tk m)) (nI i) (nI (if v = 1 then 1 else 0)) = nI (pm_tk (pm_sm m i v))) && (decide (pm_we (nI (pm_ck m)) (nI i) (nI (if v = 2 then 1 else 0)) = nI (pm_ck (pm_sm m i v))) && (pm_okb (pm_sm m i v) && decide (pm_mk (pm_sm m i v) i = v))))
theorem pm_T2a : ∀ m, m < 64 → ∀ i, i < 3 → ∀ v, v < 3 → pm_T2b m i v = true := by decide +kernel
theorem pm_T2 (m : Nat) (hm : m < 64) (h : pm_okb m = true) (i : Nat) (hi : i < 3) (v : Nat) (hv : v < 3) : pm_we (nI (pm_tk m)) (nI i) (nI (if v = 1 then 1 else 0)) = nI (pm_tk (pm_sm m i v)) ∧ pm_we (nI (pm_ck m)) (nI i) (nI (if v = 2 then 1 else 0)) = nI (pm_ck (pm_sm m i v)) ∧ pm_okb (pm_sm m i v) = true ∧ pm_mk (pm_sm m i v) i = v := by
  have a := pm_T2a m hm i hi v hv
  simp only [pm_T2b, h, Bool.not_true, Bool.false_or, Bool.and_eq_true, decide_eq_true_eq] at a
  exact a
theorem pm_wet {m i v : Nat} (h : pm_okb m = true) (hi : i < 3) (hv : v < 3) : pm_we (nI (pm_tk m)) (nI i) (nI (if v = 1 then 1 else 0)) = nI (pm_tk (pm_sm m i v)) := (pm_T2 m (pm_okb64 h) h i hi v hv).1
theorem pm_wec {m i v : Nat} (h : pm_okb m = true) (hi : i < 3) (hv : v < 3) : pm_we (nI (pm_ck m)) (nI i) (nI (if v = 2 then 1 else 0)) = nI (pm_ck (pm_sm m i v)) := (pm_T2 m (pm_okb64 h) h i hi v hv).2.1
theorem pm_smok {m i v : Nat} (h : pm_okb m = true) (hi : i < 3) (hv : v < 3) : pm_okb (pm_sm m i v) = true := (pm_T2 m (pm_okb64 h) h i hi v hv).2.2.1
/-- popcount below 8, as the JDK counts -/
def pm_tc (m : Nat) : Nat := pm_pc (pm_tk m)
def pm_cc (m : Nat) : Nat := pm_pc (pm_ck m)
theorem pm_pc4 (x : Nat) : pm_pc x < 4 := by
  unfold pm_pc
  have a := Nat.mod_lt x (show 0 < 2 by decide)
  have b := Nat.mod_lt (x / 2) (show 0 < 2 by decide)
  have c := Nat.mod_lt (x / 4) (show 0 < 2 by decide)
  omega
/-- how many frames below n bear the mark v of the editor i -/
def pm_cnt (S : Nat → Nat → Nat) (i v : Nat) : Nat → Nat
  | 0 => 0
  | n + 1 => pm_cnt S i v n + if pm_mk (S 4 n) i = v then 1 else 0
theorem pm_cnt_p {S : Nat → Nat → Nat} {i v n : Nat} (h : pm_mk (S 4 n) i = v) : pm_cnt S i v (n + 1) = pm_cnt S i v n + 1 := by rw [pm_cnt, if_pos h]
theorem pm_cnt_n {S : Nat → Nat → Nat} {i v n : Nat} (h : ¬ pm_mk (S 4 n) i = v) : pm_cnt S i v (n + 1) = pm_cnt S i v n + 0 := by rw [pm_cnt, if_neg h]
theorem pm_cnt_le (S : Nat → Nat → Nat) (i v : Nat) : ∀ n, pm_cnt S i v n ≤ n
  | 0 => Nat.le_refl 0
  | n + 1 => by
    have := pm_cnt_le S i v n
    rw [pm_cnt]
    split <;> omega
theorem pm_max0 {a b : Nat} (ha : a < 2 ^ 30) (hb : b < 2 ^ 30) : (if nI a - nI b < nI 0 then nI 0 else nI a - nI b) = nI (a - b) := by
  by_cases h : a < b
  · rw [if_pos (by rw [nI_0]; exact pk_sneg hb h), show a - b = 0 by omega]
  · rw [if_neg, pk_sub (by omega)]
    rw [pk_sub (by omega)]
    exact fun z => nI_pos (n := a - b) (by omega) (by rw [nI_0] at z; exact z)
/-- what always holds -/
def pm_Inv (S : Nat → Nat → Nat) : Prop := (∀ j, j < 30 → S 0 j < 4) ∧ (∀ j, j < 30 → pm_okb (S 4 j) = true) ∧ (∀ j, j < 30 → ¬ S 0 j = 0 → S 4 j = 0) ∧ (∀ j, j < 30 → S 1 j ≤ S 10 0) ∧ (∀ j, j < 30 → S 2 j < 4) ∧ (∀ j, j < 30 → S 3 j ≤ S 10 0) ∧ (∀ j, j < 30 → (S 0 j = 1 ∨ S 0 j = 3) → 0 < S 3 j) ∧ (∀ e, e < 3 → S 5 e ≤ 20) ∧ (1 ≤ S 9 0 ∧ S 9 0 ≤ 3 ∧ S 9 1 ≤ 9 ∧ 1 ≤ S 9 2 ∧ S 9 2 ≤ 9 ∧ 1 ≤ S 9 3 ∧ S 9 3 ≤ 5) ∧ S 10 0 ≤ 99 ∧ S 10 1 ≤ 999
theorem pm_Inv.how {S : Nat → Nat → Nat} (h : pm_Inv S) : ∀ j, j < 30 → S 0 j < 4 := h.1
theorem pm_Inv.okm {S : Nat → Nat → Nat} (h : pm_Inv S) : ∀ j, j < 30 → pm_okb (S 4 j) = true := h.2.1
theorem pm_Inv.nom {S : Nat → Nat → Nat} (h : pm_Inv S) : ∀ j, j < 30 → ¬ S 0 j = 0 → S 4 j = 0 := h.2.2.1
theorem pm_Inv.dull {S : Nat → Nat → Nat} (h : pm_Inv S) : ∀ j, j < 30 → S 1 j ≤ S 10 0 := h.2.2.2.1
theorem pm_Inv.size {S : Nat → Nat → Nat} (h : pm_Inv S) : ∀ j, j < 30 → S 2 j < 4 := h.2.2.2.2.1
theorem pm_Inv.chi {S : Nat → Nat → Nat} (h : pm_Inv S) : ∀ j, j < 30 → S 3 j ≤ S 10 0 := h.2.2.2.2.2.1
theorem pm_Inv.pick {S : Nat → Nat → Nat} (h : pm_Inv S) : ∀ j, j < 30 → (S 0 j = 1 ∨ S 0 j = 3) → 0 < S 3 j := h.2.2.2.2.2.2.1
theorem pm_Inv.pts {S : Nat → Nat → Nat} (h : pm_Inv S) : ∀ e, e < 3 → S 5 e ≤ 20 := h.2.2.2.2.2.2.2.1
theorem pm_Inv.set {S : Nat → Nat → Nat} (h : pm_Inv S) : 1 ≤ S 9 0 ∧ S 9 0 ≤ 3 ∧ S 9 1 ≤ 9 ∧ 1 ≤ S 9 2 ∧ S 9 2 ≤ 9 ∧ 1 ≤ S 9 3 ∧ S 9 3 ≤ 5 := h.2.2.2.2.2.2.2.2.1
theorem pm_Inv.set9 {S : Nat → Nat → Nat} (h : pm_Inv S) : ∀ k, k < 4 → S 9 k ≤ 9 := by
  obtain ⟨h1, h2, h3, h4, h5, h6, h7⟩ := h.set
  intro k hk
  rcases (show k = 0 ∨ k = 1 ∨ k = 2 ∨ k = 3 by omega) with rfl | rfl | rfl | rfl <;> omega
theorem pm_Inv.rnd {S : Nat → Nat → Nat} (h : pm_Inv S) : S 10 0 ≤ 99 := h.2.2.2.2.2.2.2.2.2.1
theorem pm_Inv.pap {S : Nat → Nat → Nat} (h : pm_Inv S) : S 10 1 ≤ 999 := h.2.2.2.2.2.2.2.2.2.2
/-! ===== worlds ===== -/
abbrev pm_ty (y : Nat → ClassId) : List (ClassId × FieldType) := [(y 0, .int), (y 1, .char), (y 2, .boolean), (y 3, .object RX2)]
def pm_sh (y : Nat → ClassId) (q : Nat → Nat) (c0 c1 c2 c3 c4 c5 c6 c7 c8 c9 c10 c11 : Nat → Int32) (r p t : Int32) : va_W :=
  [(q 0, .inr (2, [.ref (q 1), .ref (q 2), .ref (q 3), .ref (q 4), .ref (q 5), .ref (q 6), .ref (q 7), .ref (q 8), .ref (q 9), .ref (q 10), .ref (q 11), .ref (q 12), .int r, .int p, .int t])), (q 1, .inl (y 0, 4, .inl c0)), (q 2, .inl (y 0, 30, .inl c1)), (q 3, .inl (y 0, 30, .inl c2)), (q 4, .inl (y 0, 30, .inl c3)), (q 5, .inl (y 0, 30, .inl c4)), (q 6, .inl (y 0, 30, .inl c5)), (q 7, .inl (y 0, 30, .inl c6)), (q 8, .inl (y 0, 3, .inl c7)), (q 9, .inl (y 0, 3, .inl c8)), (q 10, .inl (y 0, 3, .inl c9)), (q 11, .inl (y 0, 3, .inl c10)), (q 12, .inl (y 0, 4, .inl c11))]
def pm_vn (f : Nat → Nat) : Nat → Int32 := fun j => nI (f j)
def pm_vt (f : Nat → Nat) : Nat → Int32 := fun j => nI (pm_tk (f j))
def pm_vc (f : Nat → Nat) : Nat → Int32 := fun j => nI (pm_ck (f j))
def pm_vi (f : Nat → Nat) : Nat → Int32 := fun j => pm_ci (f j)
/-- the sheet's cells in the state S -/
def pm_shS (y : Nat → ClassId) (q : Nat → Nat) (S : Nat → Nat → Nat) : va_W := pm_sh y q (pm_vn (S 9)) (pm_vn (S 0)) (pm_vt (S 4)) (pm_vc (S 4)) (pm_vn (S 1)) (pm_vn (S 2)) (pm_vi (S 3)) (pm_vn (S 5)) (pm_vn (S 6)) (pm_vn (S 7)) (pm_vn (S 8)) (pm_vn (S 11)) (nI (S 10 0)) (nI (S 10 1)) (nI (S 10 2))
theorem pm_vn_u (f : Nat → Nat) (i v : Nat) : upd (pm_vn f) i (nI v) = pm_vn (updN f i v) := by
  funext j
  simp only [upd, pm_vn, updN]
  split <;> rfl
theorem pm_vt_u (f : Nat → Nat) (i v : Nat) : upd (pm_vt f) i (nI (pm_tk v)) = pm_vt (updN f i v) := by
  funext j
  simp only [upd, pm_vt, updN]
  split <;> rfl
theorem pm_vc_u (f : Nat → Nat) (i v : Nat) : upd (pm_vc f) i (nI (pm_ck v)) = pm_vc (updN f i v) := by
  funext j
  simp only [upd, pm_vc, updN]
  split <;> rfl
theorem pm_vi_u (f : Nat → Nat) (i v : Nat) : upd (pm_vi f) i (pm_ci v) = pm_vi (updN f i v) := by
  funext j
  simp only [upd, pm_vi, updN]
  split <;> rfl
theorem updN_n (f : Nat → Nat) {k j : Nat} (v : Nat) (h : ¬ j = k) : updN f k v j = f j := by simp [updN, h]
/-! ===== what each change does ===== -/
def pm_aSet (S : Nat → Nat → Nat) (k v : Int32) : Int32 × (Nat → Nat → Nat) := match pm_ix k 4 with
  | none => (-2, S)
  | some i => match pm_ix v 10 with
    | none => (-2, S)
    | some w => if (if i = 1 then 0 else 1) ≤ w ∧ w ≤ (if i = 0 then 3 else if i = 3 then 5 else 9) then (nI (S 9 i), pm_st S 9 i w) else (-2, S)
def pm_aMark (S : Nat → Nat → Nat) (e f m : Int32) : Int32 × (Nat → Nat → Nat) := match pm_ix e 3 with
  | none => (-1, S)
  | some e => match pm_ix f 30 with
    | none => (-1, S)
    | some f => match pm_ix m 3 with
      | none => (-2, S)
      | some m => if S 0 f ≠ 0 then (-5, S) else if m = 2 ∧ pm_mk (S 4 f) e ≠ 2 ∧ S 9 1 ≤ pm_cnt S e 2 30 then (-4, S) else (nI (pm_mk (S 4 f) e), pm_st S 4 f (pm_sm (S 4 f) e m))
def pm_aArgue (S : Nat → Nat → Nat) (e o f : Int32) : Int32 × (Nat → Nat → Nat) := match pm_ix e 3 with
  | none => (-1, S)
  | some e => match pm_ix o 3 with
    | none => (-1, S)
    | some o => match pm_ix f 30 with
      | none => (-1, S)
      | some f => if e = o then (-2, S) else if pm_mk (S 4 f) o ≠ 2 ∨ S 5 e < S 9 2 then (-5, S)
        else if S 9 2 ≤ S 5 o then (0, pm_st (pm_st (pm_st S 5 e (S 5 e - S 9 2)) 6 e (S 6 e + 1)) 5 o (S 5 o - S 9 2))
        else (1, pm_st (pm_st (pm_st (pm_st S 5 e (S 5 e - S 9 2)) 6 e (S 6 e + 1)) 4 f (pm_sm (S 4 f) o 0)) 7 o (S 7 o + 1))
def pm_dl (S : Nat → Nat → Nat) (f : Nat) : Nat := if S 4 f = 0 then S 1 f + 1 else 0
/-- how an open frame is behind a round -/
def pm_aft (S : Nat → Nat → Nat) (f : Nat) : Nat := if 2 ≤ pm_cc (S 4 f) then 2 else if pm_cc (S 4 f) = 1 then 0 else if S 9 0 ≤ pm_tc (S 4 f) then 1 else if S 9 3 ≤ pm_dl S f then 2 else 0
/-- the favourites of the first n editors grow -/
def pm_fav (S : Nat → Nat → Nat) (f : Nat) : Nat → (Nat → Nat)
  | 0 => S 8
  | n + 1 => if pm_mk (S 4 f) n = 1 then updN (pm_fav S f n) n (pm_fav S f n n + 1) else pm_fav S f n
/-- a frame is chosen -/
def pm_chs (S : Nat → Nat → Nat) (f : Nat) : Nat → Nat → Nat := fun d => if d = 8 then pm_fav S f 3 else pm_st (pm_st S 2 f (pm_tc (S 4 f))) 3 f (S 10 0 + 1) d
def pm_jdg (S : Nat → Nat → Nat) (f : Nat) : Nat → Nat → Nat := pm_st (pm_st (pm_st (if pm_aft S f = 1 then pm_chs S f else S) 1 f (pm_dl S f)) 0 f (pm_aft S f)) 4 f 0
def pm_rds (S : Nat → Nat → Nat) : Nat → (Nat → Nat → Nat)
  | 0 => S
  | n + 1 => if S 0 n = 0 then pm_jdg (pm_rds S n) n else pm_rds S n
def pm_rct (S : Nat → Nat → Nat) : Nat → Nat
  | 0 => 0
  | n + 1 => pm_rct S n + if S 0 n = 0 ∧ pm_aft S n = 1 then 1 else 0
def pm_pts (f : Nat → Nat) : Nat → (Nat → Nat)
  | 0 => f
  | n + 1 => updN (pm_pts f n) n (if 20 < f n + 2 then 20 else f n + 2)
def pm_aRound (S : Nat → Nat → Nat) : Int32 × (Nat → Nat → Nat) := if 99 ≤ S 10 0 then (-5, S) else (nI (pm_rct S 30), pm_st (fun d => if d = 5 then pm_pts (S 5) 3 else pm_rds S 30 d) 10 0 (S 10 0 + 1))
def pm_aPrint (S : Nat → Nat → Nat) (f z : Int32) : Int32 × (Nat → Nat → Nat) := match pm_ix f 30 with
  | none => (-1, S)
  | some f => match pm_ix z 4 with
    | none => (-2, S)
    | some z => if z = 0 then (-2, S) else if S 0 f ≠ 1 ∨ S 2 f < z ∨ S 10 1 < 10 * z * z then (-5, S)
      else (nI (S 10 1 - 10 * z * z), pm_st (pm_st (pm_st (pm_st (pm_st S 0 f 3) 2 f z) 10 1 (S 10 1 - 10 * z * z)) 10 2 (S 10 2 + 10 * z * z)) 11 z (S 11 z + 1))
def pm_aBuy (S : Nat → Nat → Nat) (b : Int32) : Int32 × (Nat → Nat → Nat) := match pm_ix b 100 with
  | none => (-2, S)
  | some b => if b = 0 then (-2, S) else (nI (if 999 < S 10 1 + b then 999 else S 10 1 + b), pm_st S 10 1 (if 999 < S 10 1 + b then 999 else S 10 1 + b))
def pm_aReopen (S : Nat → Nat → Nat) (f : Int32) : Int32 × (Nat → Nat → Nat) := match pm_ix f 30 with
  | none => (-1, S)
  | some f => if S 0 f = 0 ∨ S 0 f = 3 then (-5, S) else (nI (S 0 f), pm_st (pm_st (pm_st S 0 f 0) 1 f 0) 2 f 0)

