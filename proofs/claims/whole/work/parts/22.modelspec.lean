/-! ===== the reference's cells ===== -/
def pm_rm (x : Nat) : Int32 := nI x - 1
def pm_ms (S : Nat → Nat → Nat) : Nat → Int32 := fun k => if k < 150 then (if k % 5 = 3 then pm_rm (S 3 (k / 5)) else nI (S (k % 5) (k / 5))) else if k < 162 then nI (S (5 + (k - 150) % 4) ((k - 150) / 4)) else if k < 166 then nI (S 9 (k - 162)) else if k < 169 then nI (S 10 (k - 166)) else nI (S 11 (k - 168))
theorem pm_ms_f {S : Nat → Nat → Nat} {f : Nat} (c : Nat) (hc : c < 5) (h3 : ¬ c = 3) (hf : f < 30) : pm_ms S (5 * f + c) = nI (S c f) := by
  unfold pm_ms
  rw [if_pos (by omega), if_neg (by omega), show (5 * f + c) % 5 = c by omega, show (5 * f + c) / 5 = f by omega]
theorem pm_ms_3 {S : Nat → Nat → Nat} {f : Nat} (hf : f < 30) : pm_ms S (5 * f + 3) = pm_rm (S 3 f) := by
  unfold pm_ms
  rw [if_pos (by omega), if_pos (by omega), show (5 * f + 3) / 5 = f by omega]
theorem pm_ms_e {S : Nat → Nat → Nat} {e : Nat} (w : Nat) (hw : w < 4) (he : e < 3) : pm_ms S (150 + 4 * e + w) = nI (S (5 + w) e) := by
  unfold pm_ms
  rw [if_neg (by omega), if_pos (by omega), show (150 + 4 * e + w - 150) % 4 = w by omega, show (150 + 4 * e + w - 150) / 4 = e by omega]
theorem pm_ms_s {S : Nat → Nat → Nat} {k : Nat} (hk : k < 4) : pm_ms S (162 + k) = nI (S 9 k) := by
  unfold pm_ms
  rw [if_neg (by omega), if_neg (by omega), if_pos (by omega), show 162 + k - 162 = k by omega]
theorem pm_ms_r {S : Nat → Nat → Nat} {k : Nat} (hk : k < 3) : pm_ms S (166 + k) = nI (S 10 k) := by
  unfold pm_ms
  rw [if_neg (by omega), if_neg (by omega), if_neg (by omega), if_pos (by omega), show 166 + k - 166 = k by omega]
theorem pm_ms_p {S : Nat → Nat → Nat} {k : Nat} (hk : 0 < k) : pm_ms S (168 + k) = nI (S 11 k) := by
  unfold pm_ms
  rw [if_neg (by omega), if_neg (by omega), if_neg (by omega), if_neg (by omega), show 168 + k - 168 = k by omega]
theorem pm_st_s (S : Nat → Nat → Nat) (c k v : Nat) : pm_st S c k v c k = v := by simp [pm_st, updN]
theorem pm_st_ne {S : Nat → Nat → Nat} {c k v d j : Nat} (h : ¬ (d = c ∧ j = k)) : pm_st S c k v d j = S d j := by
  by_cases hd : d = c
  · exact pm_st_k (fun z => h ⟨hd, z⟩)
  · rw [pm_st_o hd]
/-- a write that changes one place of the picture -/
theorem pm_ms_up {S : Nat → Nat → Nat} {c k v i : Nat} {x : Int32} (h1 : pm_ms (pm_st S c k v) i = x) (h2 : ∀ j, ¬ j = i → pm_ms (pm_st S c k v) j = pm_ms S j) : upd (pm_ms S) i x = pm_ms (pm_st S c k v) := by
  funext j
  unfold upd
  split
  · rename_i h
    rw [h, h1]
  · rename_i h
    exact (h2 j h).symm
theorem pm_ms_wf {S : Nat → Nat → Nat} {f v : Nat} (c : Nat) (hc : c < 5) (h3 : ¬ c = 3) (hf : f < 30) : upd (pm_ms S) (5 * f + c) (nI v) = pm_ms (pm_st S c f v) := by
  refine pm_ms_up (by rw [pm_ms_f c hc h3 hf, pm_st_s]) (fun j hj => ?_)
  unfold pm_ms
  (repeat' split) <;> rw [pm_st_ne (by omega)]
theorem pm_ms_w3 {S : Nat → Nat → Nat} {f v : Nat} (hf : f < 30) : upd (pm_ms S) (5 * f + 3) (pm_rm v) = pm_ms (pm_st S 3 f v) := by
  refine pm_ms_up (by rw [pm_ms_3 hf, pm_st_s]) (fun j hj => ?_)
  unfold pm_ms
  (repeat' split) <;> rw [pm_st_ne (by omega)]
theorem pm_ms_we {S : Nat → Nat → Nat} {e v : Nat} (w : Nat) (hw : w < 4) (he : e < 3) : upd (pm_ms S) (150 + 4 * e + w) (nI v) = pm_ms (pm_st S (5 + w) e v) := by
  refine pm_ms_up (by rw [pm_ms_e w hw he, pm_st_s]) (fun j hj => ?_)
  unfold pm_ms
  (repeat' split) <;> rw [pm_st_ne (by omega)]
theorem pm_ms_ws {S : Nat → Nat → Nat} {k v : Nat} (hk : k < 4) : upd (pm_ms S) (162 + k) (nI v) = pm_ms (pm_st S 9 k v) := by
  refine pm_ms_up (by rw [pm_ms_s hk, pm_st_s]) (fun j hj => ?_)
  unfold pm_ms
  (repeat' split) <;> rw [pm_st_ne (by omega)]
theorem pm_ms_wr {S : Nat → Nat → Nat} {k v : Nat} (hk : k < 3) : upd (pm_ms S) (166 + k) (nI v) = pm_ms (pm_st S 10 k v) := by
  refine pm_ms_up (by rw [pm_ms_r hk, pm_st_s]) (fun j hj => ?_)
  unfold pm_ms
  (repeat' split) <;> rw [pm_st_ne (by omega)]
theorem pm_ms_wp {S : Nat → Nat → Nat} {k v : Nat} (hk : 0 < k) : upd (pm_ms S) (168 + k) (nI v) = pm_ms (pm_st S 11 k v) := by
  refine pm_ms_up (by rw [pm_ms_p hk, pm_st_s]) (fun j hj => ?_)
  unfold pm_ms
  (repeat' split) <;> rw [pm_st_ne (by omega)]
theorem pm_ext {S T : Nat → Nat → Nat} (h0 : S 0 = T 0) (h1 : S 1 = T 1) (h2 : S 2 = T 2) (h3 : S 3 = T 3) (h4 : S 4 = T 4) (h5 : S 5 = T 5) (h6 : S 6 = T 6) (h7 : S 7 = T 7) (h8 : S 8 = T 8) (h9 : ∀ d, 8 < d → S d = T d) : S = T := by
  funext d
  by_cases h : 8 < d
  · exact h9 d h
  · rcases (show d = 0 ∨ d = 1 ∨ d = 2 ∨ d = 3 ∨ d = 4 ∨ d = 5 ∨ d = 6 ∨ d = 7 ∨ d = 8 by omega) with rfl | rfl | rfl | rfl | rfl | rfl | rfl | rfl | rfl
    · exact h0
    · exact h1
    · exact h2
    · exact h3
    · exact h4
    · exact h5
    · exact h6
    · exact h7
    · exact h8
def pm_mo (y : Nat → ClassId) (q : Nat → Nat) (S : Nat → Nat → Nat) (gp gs : Nat → Int32) (kn ln : Nat) (sv pd : Nat → Nat) : va_W :=
  [(q 0, .inr (4, [.ref (q 1), .ref (q 2), .int (nI kn), .ref (q 3), .ref (q 4), .ref (q 5), .int (nI ln)])), (q 1, .inl (y 0, 172, .inl (pm_ms S))), (q 2, .inl (y 0, 1032, .inl gp)), (q 3, .inl (y 0, 344, .inl gs)), (q 4, .inl (y 2, 2, .inl (pm_vn sv))), (q 5, .inl (y 0, 80, .inl (pm_vn pd)))]
theorem pm_p4 : ∀ i, i < 3 → 1 ≤ 4 ^ i ∧ 4 ^ i ≤ 16 := by decide
def pm_T6b (m i v : Nat) : Bool := !(pm_okb m) || decide (nI m + nI (4 ^ i) * (nI v - nI (pm_mk m i)) = nI (pm_sm m i v))
theorem pm_T6 : ∀ m, m < 64 → ∀ i, i < 3 → ∀ v, v < 3 → pm_T6b m i v = true := by decide +kernel
theorem pm_mrk {m i v : Nat} (h : pm_okb m = true) (hi : i < 3) (hv : v < 3) : nI m + nI (4 ^ i) * (nI v - nI (pm_mk m i)) = nI (pm_sm m i v) := by
  have a := pm_T6 m (pm_okb64 h) i hi v hv
  simp only [pm_T6b, h, Bool.not_true, Bool.false_or, decide_eq_true_eq] at a
  exact a
theorem pm_in_n {v a b : Nat} (hv : v < 2 ^ 31) (ha : a < 2 ^ 31) (hb : b < 2 ^ 31) : (nI a ≤ nI v ∧ nI v ≤ nI b) ↔ (a ≤ v ∧ v ≤ b) := by
  rw [nI_leI ha hv, nI_leI hv hb]
theorem pm_no2 {x : Int32} {n : Nat} (h : x < 0 ∨ nI (n + 1) ≤ x) (hn : n + 1 < 2 ^ 31) {a : Nat} (ha : a < 2 ^ 31) (z : nI a ≤ x ∧ x ≤ nI n) : False := by
  obtain ⟨z1, z2⟩ := z
  have b1 := Int32.le_iff_toInt_le.mp z1
  have b2 := Int32.le_iff_toInt_le.mp z2
  rw [nI_toInt ha] at b1
  rw [nI_toInt (by omega)] at b2
  rcases h with h | h
  · have a := Int32.lt_iff_toInt_lt.mp h
    have c : (0 : Int32).toInt = 0 := rfl
    rw [c] at a
    omega
  · have a := Int32.le_iff_toInt_le.mp h
    rw [nI_toInt hn] at a
    omega
theorem pm_io {x : Int32} {n j : Nat} (hn : n < 2 ^ 31) (hj : j < n) (e : x = nI j) (h : x < 0 ∨ nI n ≤ x) : False := by
  subst e
  have := pm_rout (by omega) hn h
  omega
/-- the first n bits of the editors with the mark v -/
def pm_wm (m v : Nat) : Nat → Nat
  | 0 => 0
  | n + 1 => pm_wm m v n + if pm_mk m n = v then 2 ^ n else 0
theorem pm_wm_lt (m v : Nat) : ∀ n, pm_wm m v n < 2 ^ n
  | 0 => Nat.lt_succ_self 0
  | n + 1 => by
    have := pm_wm_lt m v n
    rw [pm_wm, Nat.pow_succ]
    split <;> omega
theorem pm_wm_tk (m : Nat) : pm_wm m 1 3 = pm_tk m := by
  simp only [pm_wm, pm_tk, pm_mk, Nat.pow_zero, Nat.div_one, Nat.zero_add]
  rfl
theorem pm_wm_ck (m : Nat) : pm_wm m 2 3 = pm_ck m := by
  simp only [pm_wm, pm_ck, pm_mk, Nat.pow_zero, Nat.div_one, Nat.zero_add]
  rfl
def pm_T7b (n x : Nat) : Bool := !(decide (x < 2 ^ n)) || (decide (nI x ||| (nI 1 <<< (nI n &&& 31)) = nI (x + 2 ^ n)) && decide (nI x ||| nI 0 = nI x))
theorem pm_T7 : ∀ n, n < 3 → ∀ x, x < 8 → pm_T7b n x = true := by decide +kernel
theorem pm_ors {n x : Nat} (hn : n < 3) (hx : x < 2 ^ n) : nI x ||| (nI 1 <<< (nI n &&& 31)) = nI (x + 2 ^ n) ∧ nI x ||| nI 0 = nI x := by
  have h8 : x < 8 := Nat.lt_of_lt_of_le hx (Nat.pow_le_pow_right (by decide) (by omega : n ≤ 3))
  have a := pm_T7 n hn x h8
  simp only [pm_T7b, hx, decide_true, Bool.not_true, Bool.false_or, Bool.and_eq_true, decide_eq_true_eq] at a
  exact a
theorem pm_wm_p {m v n : Nat} (hn : n < 3) (h : pm_mk m n = v) : nI (pm_wm m v n) ||| (nI 1 <<< (nI n &&& 31)) = nI (pm_wm m v (n + 1)) := by
  rw [pm_wm, if_pos h]
  exact (pm_ors hn (pm_wm_lt m v n)).1
theorem pm_wm_n {m v n : Nat} (hn : n < 3) (h : ¬ pm_mk m n = v) : nI (pm_wm m v n) ||| nI 0 = nI (pm_wm m v (n + 1)) := by
  rw [pm_wm, if_neg h]
  exact (pm_ors hn (pm_wm_lt m v n)).2
theorem pm_T8 : ∀ m, m < 64 → pm_okb m = true → (pm_tc m + pm_cc m = 0 ↔ m = 0) := by decide +kernel
theorem pm_T9 : ∀ m, m < 64 → ∀ n, n < 3 → (nI (pm_tk m) >>> (nI n &&& 31)) &&& nI 1 = nI (if pm_mk m n = 1 then 1 else 0) := by decide +kernel
/-! ===== the reference's history ===== -/
def pm_MH (gp : Nat → Int32) (kn : Nat) (Hs : Nat → Nat → Nat → Nat) : Prop := ∀ k, k < kn → ∀ j, j < 172 → gp (172 * k + j) = pm_ms (Hs k) j
def pm_kn (kn : Nat) : Nat := if kn = 6 then 6 else kn + 1
def pm_push (Hs : Nat → Nat → Nat → Nat) (kn : Nat) (S : Nat → Nat → Nat) : Nat → Nat → Nat → Nat := fun k => if kn = 6 then (if k = 5 then S else Hs (k + 1)) else (if k = kn then S else Hs k)
def pm_k2 (z : Int32) (kn : Nat) : Nat := if z < 0 then kn else pm_kn kn
def pm_h2 (z : Int32) (Hs : Nat → Nat → Nat → Nat) (kn : Nat) (S : Nat → Nat → Nat) : Nat → Nat → Nat → Nat := if z < 0 then Hs else pm_push Hs kn S
theorem pm_neg1 : (-1 : Int32) < 0 := by decide
theorem pm_neg2 : (-2 : Int32) < 0 := by decide
theorem pm_neg4 : (-4 : Int32) < 0 := by decide
theorem pm_neg5 : (-5 : Int32) < 0 := by decide
