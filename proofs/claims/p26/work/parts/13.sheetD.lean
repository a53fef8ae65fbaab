theorem pm_lead1 {x : Int32} {n : Nat} (h : x < 0 ∨ nI (n + 1) ≤ x) (hn : n + 1 < 2 ^ 31) (h1 : ¬ x < nI 1) (h2 : x ≤ nI n) : False := by
  rcases h with h | h
  · have a := Int32.lt_iff_toInt_lt.mp h
    have b := fun z => h1 (Int32.lt_iff_toInt_lt.mpr z)
    rw [nI_toInt (by decide)] at b
    have c : (0 : Int32).toInt = 0 := rfl
    rw [c] at a
    exact b (by omega)
  · have a := Int32.le_iff_toInt_le.mp h
    have b := Int32.le_iff_toInt_le.mp h2
    rw [nI_toInt hn] at a
    rw [nI_toInt (by omega)] at b
    omega
theorem pm_min {a b : Nat} (ha : a < 2 ^ 31) (hb : b < 2 ^ 31) : (if nI b < nI a then nI b else nI a) = nI (if b < a then b else a) := by
  by_cases h : b < a
  · rw [if_pos h, if_pos (nI_lt h ha)]
  · rw [if_neg h, if_neg (nI_nlt (by omega) hb)]
def pm_ch0 (S : Nat → Nat → Nat) (f n : Nat) : Nat → Nat → Nat := fun d => if d = 8 then pm_fav S f n else pm_st (pm_st S 2 f (pm_tc (S 4 f))) 3 f (S 10 0 + 1) d
theorem pm_ch0_p {S : Nat → Nat → Nat} {f n : Nat} (h : pm_mk (S 4 f) n = 1) : pm_ch0 S f (n + 1) = pm_st (pm_ch0 S f n) 8 n (pm_fav S f n n + 1) := by
  funext d
  unfold pm_ch0 pm_st
  by_cases hd : d = 8
  · simp only [hd, if_true, pm_fav, if_pos h]
  · simp only [hd, if_false]
theorem pm_ch0_n {S : Nat → Nat → Nat} {f n : Nat} (h : ¬ pm_mk (S 4 f) n = 1) : pm_ch0 S f (n + 1) = pm_ch0 S f n := by
  funext d
  unfold pm_ch0
  by_cases hd : d = 8
  · simp only [hd, if_true, pm_fav, if_neg h]
  · simp only [hd, if_false]
theorem pm_jdg_p {S : Nat → Nat → Nat} {f : Nat} (h : pm_aft S f = 1) : pm_jdg S f = pm_st (pm_st (pm_st (pm_chs S f) 1 f (pm_dl S f)) 0 f (pm_aft S f)) 4 f 0 := by rw [pm_jdg, if_pos h]
theorem pm_jdg_n {S : Nat → Nat → Nat} {f : Nat} (h : ¬ pm_aft S f = 1) : pm_jdg S f = pm_st (pm_st (pm_st S 1 f (pm_dl S f)) 0 f (pm_aft S f)) 4 f 0 := by rw [pm_jdg, if_neg h]
theorem pm_st_o {S : Nat → Nat → Nat} {c k v d : Nat} (h : ¬ d = c) : pm_st S c k v d = S d := by simp [pm_st, h]
theorem pm_st_k {S : Nat → Nat → Nat} {c k v d j : Nat} (h : ¬ j = k) : pm_st S c k v d j = S d j := by
  unfold pm_st
  split
  · exact updN_n _ _ h
  · rfl
theorem pm_chs_k {S : Nat → Nat → Nat} {f c k : Nat} (hk : ¬ k = f) (hc : c < 8) : pm_chs S f c k = S c k := by
  unfold pm_chs
  rw [if_neg (by omega), pm_st_k hk, pm_st_k hk]
theorem pm_chs_9 {S : Nat → Nat → Nat} {f c : Nat} (hc : c = 0 ∨ c = 1 ∨ c = 4 ∨ c = 5 ∨ c = 6 ∨ c = 7 ∨ 8 < c) : pm_chs S f c = S c := by
  unfold pm_chs
  rw [if_neg (by omega), pm_st_o (by omega), pm_st_o (by omega)]
theorem pm_jdg_o {S : Nat → Nat → Nat} {f c k : Nat} (hk : ¬ k = f) (hc : c < 8) : pm_jdg S f c k = S c k := by
  by_cases h : pm_aft S f = 1
  · rw [pm_jdg_p h, pm_st_k hk, pm_st_k hk, pm_st_k hk, pm_chs_k hk hc]
  · rw [pm_jdg_n h, pm_st_k hk, pm_st_k hk, pm_st_k hk]
theorem pm_jdg_5 {S : Nat → Nat → Nat} {f c : Nat} (hc : c = 5 ∨ c = 6 ∨ c = 7 ∨ 8 < c) : pm_jdg S f c = S c := by
  by_cases h : pm_aft S f = 1
  · rw [pm_jdg_p h, pm_st_o (by omega), pm_st_o (by omega), pm_st_o (by omega), pm_chs_9 (by omega)]
  · rw [pm_jdg_n h, pm_st_o (by omega), pm_st_o (by omega), pm_st_o (by omega)]
theorem pm_jdg_9 {S : Nat → Nat → Nat} {f c k : Nat} (hc : 8 < c) : pm_jdg S f c k = S c k := by rw [pm_jdg_5 (by omega)]
theorem pm_rds_o (S : Nat → Nat → Nat) {c : Nat} (hc : c < 8) : ∀ n k, n ≤ k → pm_rds S n c k = S c k
  | 0, _, _ => rfl
  | n + 1, k, h => by
    rw [pm_rds]
    split
    · rw [pm_jdg_o (by omega) hc, pm_rds_o S hc n k (by omega)]
    · exact pm_rds_o S hc n k (by omega)
theorem pm_rds_9 (S : Nat → Nat → Nat) {c : Nat} (hc : 8 < c) (k : Nat) : ∀ n, pm_rds S n c k = S c k
  | 0 => rfl
  | n + 1 => by
    rw [pm_rds]
    split
    · rw [pm_jdg_9 hc, pm_rds_9 S hc k n]
    · exact pm_rds_9 S hc k n
theorem pm_rds_p {S : Nat → Nat → Nat} {n : Nat} (h : S 0 n = 0) : pm_rds S (n + 1) = pm_jdg (pm_rds S n) n := by rw [pm_rds, if_pos h]
theorem pm_rds_n {S : Nat → Nat → Nat} {n : Nat} (h : ¬ S 0 n = 0) : pm_rds S (n + 1) = pm_rds S n := by rw [pm_rds, if_neg h]
theorem pm_aft_eq {S T : Nat → Nat → Nat} {f : Nat} (h4 : T 4 f = S 4 f) (h1 : T 1 f = S 1 f) (h9 : T 9 0 = S 9 0) (h93 : T 9 3 = S 9 3) : pm_aft T f = pm_aft S f := by
  unfold pm_aft pm_dl
  rw [h4, h1, h9, h93]
theorem pm_aft_r (S : Nat → Nat → Nat) (n : Nat) : pm_aft (pm_rds S n) n = pm_aft S n := pm_aft_eq (pm_rds_o S (by decide) n n (Nat.le_refl n)) (pm_rds_o S (by decide) n n (Nat.le_refl n)) (pm_rds_9 S (by decide) 0 n) (pm_rds_9 S (by decide) 3 n)
theorem pm_rct_p {S : Nat → Nat → Nat} {n : Nat} (h : S 0 n = 0) (h2 : pm_aft S n = 1) : pm_rct S (n + 1) = pm_rct S n + 1 := by rw [pm_rct, if_pos ⟨h, h2⟩]
theorem pm_rct_n {S : Nat → Nat → Nat} {n : Nat} (h : ¬ (S 0 n = 0 ∧ pm_aft S n = 1)) : pm_rct S (n + 1) = pm_rct S n := by rw [pm_rct, if_neg h]; rfl
theorem pm_pts_o (f : Nat → Nat) : ∀ n k, n ≤ k → pm_pts f n k = f k
  | 0, _, _ => rfl
  | n + 1, k, h => by
    rw [pm_pts, updN_n _ _ (by omega)]
    exact pm_pts_o f n k (by omega)
/-- the state in the middle of a round's end -/
def pm_mid2 (S : Nat → Nat → Nat) (n : Nat) : Nat → Nat → Nat := fun d => if d = 5 then pm_pts (S 5) n else pm_rds S 30 d
theorem pm_rds_5 (S : Nat → Nat → Nat) {c : Nat} (hc : c = 5 ∨ c = 6 ∨ c = 7 ∨ 8 < c) : ∀ n, pm_rds S n c = S c
  | 0 => rfl
  | n + 1 => by
    rw [pm_rds]
    split
    · rw [pm_jdg_5 hc, pm_rds_5 S hc n]
    · exact pm_rds_5 S hc n
theorem pm_mid2_z (S : Nat → Nat → Nat) : pm_mid2 S 0 = pm_rds S 30 := by
  funext d
  unfold pm_mid2
  split
  · rename_i h
    subst h
    exact (pm_rds_5 S (Or.inl rfl) 30).symm
  · rfl
theorem pm_mid2_s (S : Nat → Nat → Nat) (n : Nat) : pm_mid2 S (n + 1) = pm_st (pm_mid2 S n) 5 n (if 20 < S 5 n + 2 then 20 else S 5 n + 2) := by
  funext d
  unfold pm_mid2 pm_st
  by_cases hd : d = 5
  · simp only [hd, if_true, pm_pts]
  · simp only [hd, if_false]
theorem pm_vt_eq {f : Nat → Nat} {k v : Nat} (h : pm_tk v = pm_tk (f k)) : pm_vt f = pm_vt (updN f k v) := by
  funext j
  unfold pm_vt updN
  split
  · rename_i e
    rw [e, h]
  · rfl
def pm_T5b (m i : Nat) : Bool := !(pm_okb m) || (!(decide (pm_mk m i = 2)) || decide (pm_tk (pm_sm m i 0) = pm_tk m))
theorem pm_T5 : ∀ m, m < 64 → ∀ i, i < 3 → pm_T5b m i = true := by decide +kernel
theorem pm_tk_sm0 {m i : Nat} (h : pm_okb m = true) (hi : i < 3) (h2 : pm_mk m i = 2) : pm_tk (pm_sm m i 0) = pm_tk m := by
  have a := pm_T5 m (pm_okb64 h) i hi
  simp only [pm_T5b, h, h2, decide_true, Bool.not_true, Bool.false_or, decide_eq_true_eq] at a
  exact a
set_option maxHeartbeats 4000000 in
set_option maxRecDepth 100000 in
theorem k_X2_noteChoice (l : Launch) (D : va_G) (y : Nat → ClassId) (q : Nat → Nat) (S : Nat → Nat → Nat) (f : Nat) (ho : pm_okb (S 4 f) = true) (hrd : S 10 0 ≤ 99) (hf : f < 30) : Met l yX2_noteChoice wsX2_noteChoice ({ frames := 1, cells := 0, slots := 0, locals := 23 } : Room) (pm_wr D (pm_ty y) [.ref (q 0), .int (nI f)] (pm_shS y q S)) (pm_Qv D (fun (_ : Unit) => True) (fun (_ : Unit) => pm_shS y q (pm_chs S f)) (pm_shS y q S)) 0 0 (pm_ad (pm_shS y q S)) := by
  refine Met.ofW (cc := cX2_noteChoice) (maxL := 3) (ret := none) (by decide) rfl ?_
  intro p e s m args below meth c s₁ B hml hpre
  obtain ⟨rfl, hP, hK, hD0⟩ := hpre
  have hx := B.exec
  have hb := B.bytes
  have hr := B.returns
  have hts := atoms_spec (ws := wsX2_noteChoice) B.pre
  have hown : s.vm.findClass RX2 = some m.cls := findClass_of_methodNamed B.named
  have hlocks := B.notSynchronized
  have hin2 : ∀ w ∈ u_ws RX2 TX2 15, w ∈ wsX2_noteChoice := fun w h => List.mem_cons_of_mem _ (List.mem_append_right _ h)
  have hD := pm_ad_self hD0
  have hS : va_S (pm_ad (pm_shS y q S)) s.heap s.heap [] := va_S.rf
  have hP : va_P D vwCl (pm_shS y q S) s.heap := hP
  have hl := lv_entry ([.ref (q 0), .int (nI f)]) (n := 3) (Nat.le_of_ble_eq_true rfl)
  rw [lg_entry_eq]
  generalize (lg_sl ([.ref (q 0), .int (nI f)]) ++ List.replicate (3 - (lg_sl ([.ref (q 0), .int (nI f)])).length) Slot.unset).toArray = ls at hl ⊢
  have hl : lv_has ls 3 [(0, .ref (q 0)), (1, .int (nI f))] := hl
  refine lv_aload_n hx hb dX2_noteChoice_0 rfl (lv_at hl 0 rfl) ?_
  refine va_get (D := D) (ci := 2) (v := .ref (q 6)) (C := RX2) (T := TX2) (N := 15) hx hb hts hin2 hown hK hP 0 rfl rfl 5 (by decide) (hts (.fieldLink RX2 27 "ProofMarks$Sheet" "sizes" "[I") (List.mem_of_getElem? (i := 1) rfl)) (fun _ h9 => h9) rfl dX2_noteChoice_1 ?_
  refine lv_iload_n hx hb dX2_noteChoice_4 rfl (lv_at hl 1 rfl) ?_
  refine lv_aload_n hx hb dX2_noteChoice_5 rfl (lv_at hl 0 rfl) ?_
  refine va_get (D := D) (ci := 2) (v := .ref (q 3)) (C := RX2) (T := TX2) (N := 15) hx hb hts hin2 hown hK hP 0 rfl rfl 2 (by decide) (hts (.fieldLink RX2 18 "ProofMarks$Sheet" "ticks" "[I") (List.mem_of_getElem? (i := 2) rfl)) (fun _ h9 => h9) rfl dX2_noteChoice_6 ?_
  refine lv_iload_n hx hb dX2_noteChoice_9 rfl (lv_at hl 1 rfl) ?_
  refine kx_iald (v := nI (pm_tk ((S 4) f))) hx hb hK hP 3 0 rfl rfl (by omega) (by decide) rfl dX2_noteChoice_10 ?_
  have := pm_tk8 ((S 4) f)
  refine vp_callSi (W.runS (As := [.int (nI (pm_tk ((S 4) f)))]) (rest := [.int (nI f), .ref (q 6)]) ⟨hx, hb, hml, hown, hts⟩ (k_J6_bitCount_0f7a4 l (pm_tk ((S 4) f)) (by omega)) (va_cwS 1 hts gX2_noteChoice_J6_bitCount_0f7a4 rfl rfl rfl hd_J6_bitCount_0f7a4 ⟨Nat.le_of_ble_eq_true rfl, Nat.le_of_ble_eq_true rfl⟩) ⟨pm_no_blind, pm_no_pre⟩ rfl rfl hl.1 rfl (lv_room (Nat.le_of_ble_eq_true rfl)) dX2_noteChoice_11 ⟨Nat.le_of_ble_eq_true rfl, Nat.le_of_ble_eq_true rfl⟩) (fun r1 h2 => ?_)
  obtain rfl : r1 = nI (pm_pc (pm_tk ((S 4) f))) := h2
  have := pm_pc4 (pm_tk ((S 4) f))
  refine kx_iast (ws' := pm_sh y q (pm_vn (S 9)) (pm_vn (S 0)) (pm_vt (S 4)) (pm_vc (S 4)) (pm_vn (S 1)) (pm_vn (updN (S 2) f (pm_pc (pm_tk ((S 4) f))))) (pm_vi (S 3)) (pm_vn (S 5)) (pm_vn (S 6)) (pm_vn (S 7)) (pm_vn (S 8)) (pm_vn (S 11)) (nI (S 10 0)) (nI (S 10 1)) (nI (S 10 2))) hx hb hK hP hD hS 6 0 rfl rfl (by omega) (by decide) (pm_vn_u (S 2) f (pm_pc (pm_tk ((S 4) f)))) rfl dX2_noteChoice_14 (fun H locs hP hD hS => ?_)
  refine lv_aload_n hx hb dX2_noteChoice_15 rfl (lv_at hl 0 rfl) ?_
  refine va_get (D := D) (ci := 2) (v := .ref (q 7)) (C := RX2) (T := TX2) (N := 15) hx hb hts hin2 hown hK hP 0 rfl rfl 6 (by decide) (hts (.fieldLink RX2 30 "ProofMarks$Sheet" "chosenIn" "[I") (List.mem_of_getElem? (i := 3) rfl)) (fun _ h9 => h9) rfl dX2_noteChoice_16 ?_
  refine lv_iload_n hx hb dX2_noteChoice_19 rfl (lv_at hl 1 rfl) ?_
  refine lv_aload_n hx hb dX2_noteChoice_20 rfl (lv_at hl 0 rfl) ?_
  refine va_get (D := D) (ci := 2) (v := .int (nI (S 10 0))) (C := RX2) (T := TX2) (N := 15) hx hb hts hin2 hown hK hP 0 rfl rfl 12 (by decide) (hts (.fieldLink RX2 48 "ProofMarks$Sheet" "rounds" "I") (List.mem_of_getElem? (i := 4) rfl)) (fun _ h9 => h9) rfl dX2_noteChoice_21 ?_
  refine lv_topi (fun x3 e4 => ?_)
  obtain rfl : x3 = pm_ci (S 10 0 + 1) := e4.trans ((show nI (S 10 0) = pm_ci (S 10 0 + 1) from (pm_ci_p (x := S 10 0 + 1) (by omega)).symm))
  refine kx_iast (ws' := pm_sh y q (pm_vn (S 9)) (pm_vn (S 0)) (pm_vt (S 4)) (pm_vc (S 4)) (pm_vn (S 1)) (pm_vn (updN (S 2) f (pm_pc (pm_tk ((S 4) f))))) (pm_vi (updN (S 3) f (S 10 0 + 1))) (pm_vn (S 5)) (pm_vn (S 6)) (pm_vn (S 7)) (pm_vn (S 8)) (pm_vn (S 11)) (nI (S 10 0)) (nI (S 10 1)) (nI (S 10 2))) hx hb hK hP hD hS 7 0 rfl rfl (by omega) (by decide) (pm_vi_u (S 3) f (S 10 0 + 1)) rfl dX2_noteChoice_24 (fun H locs hP hD hS => ?_)
  refine lv_iconst (v := nI 0) hx hb dX2_noteChoice_25 (by decide) ?_
  refine lv_istore_n (lv' := [(2, .int (nI 0)), (0, .ref (q 0)), (1, .int (nI f))]) hx hb dX2_noteChoice_26 rfl hl (by decide) rfl (fun ls hl => ?_)
  have hP : va_P D vwCl (pm_shS y q (pm_ch0 S f 0)) H := by exact hP
  have hD : va_D (pm_ad (pm_shS y q S)) (pm_shS y q (pm_ch0 S f 0)) := by exact hD
  refine lv_iload_n hx hb dX2_noteChoice_27 rfl (lv_at hl 0 rfl) ?_
  refine lv_iconst (v := nI 3) hx hb dX2_noteChoice_28 (by decide) ?_
  refine lv_icmp_ge (tgt := 58) hx hb dX2_noteChoice_29 (by decide) (fun c5 => absurd c5 (by decide)) (fun _ => ?_)
  refine lv_aload_n hx hb dX2_noteChoice_32 rfl (lv_at hl 1 rfl) ?_
  refine lv_iload_n hx hb dX2_noteChoice_33 rfl (lv_at hl 0 rfl) ?_
  refine lv_iload_n hx hb dX2_noteChoice_34 rfl (lv_at hl 2 rfl) ?_
  refine vp_callSi (W.runV (As := [.int (nI 0), .int (nI f)]) (rest := []) ⟨hx, hb, hml, hown, hts⟩ (k_X2_markOf l D y q (pm_ch0 S f 0) 0 f ho (by omega) (by omega)) (cwV 2 hts gX2_noteChoice_X2_markOf rfl rfl rfl hd_X2_markOf ⟨Nat.le_of_ble_eq_true rfl, Nat.le_of_ble_eq_true rfl⟩) ⟨pm_ro_blind, va_recv hK hP (ci := 2) (q0 := 0) rfl rfl, pm_ro_pre hP hK⟩ rfl rfl hl.1 rfl (lv_room (Nat.le_of_ble_eq_true rfl)) dX2_noteChoice_35 ⟨Nat.le_of_ble_eq_true rfl, Nat.le_of_ble_eq_true rfl⟩) (fun r6 h7 => ?_)
  obtain rfl : r6 = nI (pm_mk ((pm_ch0 S f 0) 4 f) 0) := h7
  have := pm_lt4 ((pm_ch0 S f 0) 4 f) 0
  refine lv_topi (fun x8 e9 => ?_)
  obtain rfl : x8 = nI (pm_mk (S 4 f) 0) := e9.trans (rfl)
  have := pm_lt4 (S 4 f) 0
  refine lv_iconst (v := nI 1) hx hb dX2_noteChoice_38 (by decide) ?_
  refine kx_icmp_ne (tgt := 52) hx hb (by omega) (by decide) dX2_noteChoice_39 (by decide) (fun c10 => ?_) (fun c10 => ?_)
  · skip
    have hP : va_P D vwCl (pm_shS y q (pm_ch0 S f 1)) H := by rw [show pm_ch0 S f 1 = _ from by first | exact pm_ch0_p (n := 0) (by assumption) | exact pm_ch0_n (n := 0) (by assumption)]; exact hP
    have hD : va_D (pm_ad (pm_shS y q S)) (pm_shS y q (pm_ch0 S f 1)) := by rw [show pm_ch0 S f 1 = _ from by first | exact pm_ch0_p (n := 0) (by assumption) | exact pm_ch0_n (n := 0) (by assumption)]; exact hD
    refine lv_iinc (v := nI 1) (lv' := [(2, .int (nI 1)), (0, .ref (q 0)), (1, .int (nI f))]) hx hb dX2_noteChoice_52 hl (k := 0) rfl (by decide) (by decide) rfl (fun ls hl => ?_)
    refine lv_goto (tgt := 27) hx hb dX2_noteChoice_55 (by decide) ?_
    refine lv_iload_n hx hb dX2_noteChoice_27 rfl (lv_at hl 0 rfl) ?_
    refine lv_iconst (v := nI 3) hx hb dX2_noteChoice_28 (by decide) ?_
    refine lv_icmp_ge (tgt := 58) hx hb dX2_noteChoice_29 (by decide) (fun c11 => absurd c11 (by decide)) (fun _ => ?_)
    refine lv_aload_n hx hb dX2_noteChoice_32 rfl (lv_at hl 1 rfl) ?_
    refine lv_iload_n hx hb dX2_noteChoice_33 rfl (lv_at hl 0 rfl) ?_
    refine lv_iload_n hx hb dX2_noteChoice_34 rfl (lv_at hl 2 rfl) ?_
    refine vp_callSi (W.runV (As := [.int (nI 1), .int (nI f)]) (rest := []) ⟨hx, hb, hml, hown, hts⟩ (k_X2_markOf l D y q (pm_ch0 S f 1) 1 f ho (by omega) (by omega)) (cwV 2 hts gX2_noteChoice_X2_markOf rfl rfl rfl hd_X2_markOf ⟨Nat.le_of_ble_eq_true rfl, Nat.le_of_ble_eq_true rfl⟩) ⟨pm_ro_blind, va_recv hK hP (ci := 2) (q0 := 0) rfl rfl, pm_ro_pre hP hK⟩ rfl rfl hl.1 rfl (lv_room (Nat.le_of_ble_eq_true rfl)) dX2_noteChoice_35 ⟨Nat.le_of_ble_eq_true rfl, Nat.le_of_ble_eq_true rfl⟩) (fun r12 h13 => ?_)
    obtain rfl : r12 = nI (pm_mk ((pm_ch0 S f 1) 4 f) 1) := h13
    have := pm_lt4 ((pm_ch0 S f 1) 4 f) 1
    refine lv_topi (fun x14 e15 => ?_)
    obtain rfl : x14 = nI (pm_mk (S 4 f) 1) := e15.trans (rfl)
    have := pm_lt4 (S 4 f) 1
    refine lv_iconst (v := nI 1) hx hb dX2_noteChoice_38 (by decide) ?_
    refine kx_icmp_ne (tgt := 52) hx hb (by omega) (by decide) dX2_noteChoice_39 (by decide) (fun c16 => ?_) (fun c16 => ?_)
    · skip
      have hP : va_P D vwCl (pm_shS y q (pm_ch0 S f 2)) H := by rw [show pm_ch0 S f 2 = _ from by first | exact pm_ch0_p (n := 1) (by assumption) | exact pm_ch0_n (n := 1) (by assumption)]; exact hP
      have hD : va_D (pm_ad (pm_shS y q S)) (pm_shS y q (pm_ch0 S f 2)) := by rw [show pm_ch0 S f 2 = _ from by first | exact pm_ch0_p (n := 1) (by assumption) | exact pm_ch0_n (n := 1) (by assumption)]; exact hD
      refine lv_iinc (v := nI 2) (lv' := [(2, .int (nI 2)), (0, .ref (q 0)), (1, .int (nI f))]) hx hb dX2_noteChoice_52 hl (k := 0) rfl (by decide) (by decide) rfl (fun ls hl => ?_)
      refine lv_goto (tgt := 27) hx hb dX2_noteChoice_55 (by decide) ?_
      refine lv_iload_n hx hb dX2_noteChoice_27 rfl (lv_at hl 0 rfl) ?_
      refine lv_iconst (v := nI 3) hx hb dX2_noteChoice_28 (by decide) ?_
      refine lv_icmp_ge (tgt := 58) hx hb dX2_noteChoice_29 (by decide) (fun c17 => absurd c17 (by decide)) (fun _ => ?_)
      refine lv_aload_n hx hb dX2_noteChoice_32 rfl (lv_at hl 1 rfl) ?_
      refine lv_iload_n hx hb dX2_noteChoice_33 rfl (lv_at hl 0 rfl) ?_
      refine lv_iload_n hx hb dX2_noteChoice_34 rfl (lv_at hl 2 rfl) ?_
      refine vp_callSi (W.runV (As := [.int (nI 2), .int (nI f)]) (rest := []) ⟨hx, hb, hml, hown, hts⟩ (k_X2_markOf l D y q (pm_ch0 S f 2) 2 f ho (by omega) (by omega)) (cwV 2 hts gX2_noteChoice_X2_markOf rfl rfl rfl hd_X2_markOf ⟨Nat.le_of_ble_eq_true rfl, Nat.le_of_ble_eq_true rfl⟩) ⟨pm_ro_blind, va_recv hK hP (ci := 2) (q0 := 0) rfl rfl, pm_ro_pre hP hK⟩ rfl rfl hl.1 rfl (lv_room (Nat.le_of_ble_eq_true rfl)) dX2_noteChoice_35 ⟨Nat.le_of_ble_eq_true rfl, Nat.le_of_ble_eq_true rfl⟩) (fun r18 h19 => ?_)
      obtain rfl : r18 = nI (pm_mk ((pm_ch0 S f 2) 4 f) 2) := h19
      have := pm_lt4 ((pm_ch0 S f 2) 4 f) 2
      refine lv_topi (fun x20 e21 => ?_)
      obtain rfl : x20 = nI (pm_mk (S 4 f) 2) := e21.trans (rfl)
      have := pm_lt4 (S 4 f) 2
      refine lv_iconst (v := nI 1) hx hb dX2_noteChoice_38 (by decide) ?_
      refine kx_icmp_ne (tgt := 52) hx hb (by omega) (by decide) dX2_noteChoice_39 (by decide) (fun c22 => ?_) (fun c22 => ?_)
      · skip
        have hP : va_P D vwCl (pm_shS y q (pm_ch0 S f 3)) H := by rw [show pm_ch0 S f 3 = _ from by first | exact pm_ch0_p (n := 2) (by assumption) | exact pm_ch0_n (n := 2) (by assumption)]; exact hP
        have hD : va_D (pm_ad (pm_shS y q S)) (pm_shS y q (pm_ch0 S f 3)) := by rw [show pm_ch0 S f 3 = _ from by first | exact pm_ch0_p (n := 2) (by assumption) | exact pm_ch0_n (n := 2) (by assumption)]; exact hD
        refine lv_iinc (v := nI 3) (lv' := [(2, .int (nI 3)), (0, .ref (q 0)), (1, .int (nI f))]) hx hb dX2_noteChoice_52 hl (k := 0) rfl (by decide) (by decide) rfl (fun ls hl => ?_)
        refine lv_goto (tgt := 27) hx hb dX2_noteChoice_55 (by decide) ?_
        refine lv_iload_n hx hb dX2_noteChoice_27 rfl (lv_at hl 0 rfl) ?_
        refine lv_iconst (v := nI 3) hx hb dX2_noteChoice_28 (by decide) ?_
        refine lv_icmp_ge (tgt := 58) hx hb dX2_noteChoice_29 (by decide) (fun _ => ?_) (fun c23 => (c23 (by decide)).elim)
        exact W.vret hx hb hr (fun t ht _ => ⟨⟨(), rfl, trivial, (by show va_P D vwCl (pm_shS y q (pm_chs S f)) t.heap; rw [ht]; exact hP)⟩, hS.F ht⟩) hS.2.2 dX2_noteChoice_58
      · skip
        refine lv_aload_n hx hb dX2_noteChoice_42 rfl (lv_at hl 1 rfl) ?_
        refine va_get (D := D) (ci := 2) (v := .ref (q 11)) (C := RX2) (T := TX2) (N := 15) hx hb hts hin2 hown hK hP 0 rfl rfl 10 (by decide) (hts (.fieldLink RX2 42 "ProofMarks$Sheet" "favourites" "[I") (List.mem_of_getElem? (i := 5) rfl)) (fun _ h9 => h9) rfl dX2_noteChoice_43 ?_
        refine lv_iload_n hx hb dX2_noteChoice_46 rfl (lv_at hl 0 rfl) ?_
        refine lv_dup2_11 hx hb dX2_noteChoice_47 rfl rfl ?_
        refine kx_iald (v := nI (((pm_ch0 S f 2) 8) 2)) hx hb hK hP 11 0 rfl rfl (by omega) (by decide) rfl dX2_noteChoice_48 ?_
        refine lv_topi (fun x24 e25 => ?_)
        obtain rfl : x24 = nI (pm_fav S f 2 2) := e25.trans (rfl)
        refine lv_iconst (v := nI 1) hx hb dX2_noteChoice_49 (by decide) ?_
        refine kx_iadd hx hb dX2_noteChoice_50 ?_
        refine kx_iast (ws' := pm_sh y q (pm_vn ((pm_ch0 S f 2) 9)) (pm_vn ((pm_ch0 S f 2) 0)) (pm_vt ((pm_ch0 S f 2) 4)) (pm_vc ((pm_ch0 S f 2) 4)) (pm_vn ((pm_ch0 S f 2) 1)) (pm_vn ((pm_ch0 S f 2) 2)) (pm_vi ((pm_ch0 S f 2) 3)) (pm_vn ((pm_ch0 S f 2) 5)) (pm_vn ((pm_ch0 S f 2) 6)) (pm_vn ((pm_ch0 S f 2) 7)) (pm_vn (updN ((pm_ch0 S f 2) 8) 2 ((pm_fav S f 2 2) + 1))) (pm_vn ((pm_ch0 S f 2) 11)) (nI ((pm_ch0 S f 2) 10 0)) (nI ((pm_ch0 S f 2) 10 1)) (nI ((pm_ch0 S f 2) 10 2))) hx hb hK hP hD hS 11 0 rfl rfl (by omega) (by decide) (pm_vn_u ((pm_ch0 S f 2) 8) 2 ((pm_fav S f 2 2) + 1)) rfl dX2_noteChoice_51 (fun H locs hP hD hS => ?_)
        have hP : va_P D vwCl (pm_shS y q (pm_ch0 S f 3)) H := by rw [show pm_ch0 S f 3 = _ from by first | exact pm_ch0_p (n := 2) (by assumption) | exact pm_ch0_n (n := 2) (by assumption)]; exact hP
        have hD : va_D (pm_ad (pm_shS y q S)) (pm_shS y q (pm_ch0 S f 3)) := by rw [show pm_ch0 S f 3 = _ from by first | exact pm_ch0_p (n := 2) (by assumption) | exact pm_ch0_n (n := 2) (by assumption)]; exact hD
        refine lv_iinc (v := nI 3) (lv' := [(2, .int (nI 3)), (0, .ref (q 0)), (1, .int (nI f))]) hx hb dX2_noteChoice_52 hl (k := 0) rfl (by decide) (by decide) rfl (fun ls hl => ?_)
        refine lv_goto (tgt := 27) hx hb dX2_noteChoice_55 (by decide) ?_
        refine lv_iload_n hx hb dX2_noteChoice_27 rfl (lv_at hl 0 rfl) ?_
        refine lv_iconst (v := nI 3) hx hb dX2_noteChoice_28 (by decide) ?_
        refine lv_icmp_ge (tgt := 58) hx hb dX2_noteChoice_29 (by decide) (fun _ => ?_) (fun c26 => (c26 (by decide)).elim)
        exact W.vret hx hb hr (fun t ht _ => ⟨⟨(), rfl, trivial, (by show va_P D vwCl (pm_shS y q (pm_chs S f)) t.heap; rw [ht]; exact hP)⟩, hS.F ht⟩) hS.2.2 dX2_noteChoice_58
    · skip
      refine lv_aload_n hx hb dX2_noteChoice_42 rfl (lv_at hl 1 rfl) ?_
      refine va_get (D := D) (ci := 2) (v := .ref (q 11)) (C := RX2) (T := TX2) (N := 15) hx hb hts hin2 hown hK hP 0 rfl rfl 10 (by decide) (hts (.fieldLink RX2 42 "ProofMarks$Sheet" "favourites" "[I") (List.mem_of_getElem? (i := 5) rfl)) (fun _ h9 => h9) rfl dX2_noteChoice_43 ?_
      refine lv_iload_n hx hb dX2_noteChoice_46 rfl (lv_at hl 0 rfl) ?_
      refine lv_dup2_11 hx hb dX2_noteChoice_47 rfl rfl ?_
      refine kx_iald (v := nI (((pm_ch0 S f 1) 8) 1)) hx hb hK hP 11 0 rfl rfl (by omega) (by decide) rfl dX2_noteChoice_48 ?_
      refine lv_topi (fun x27 e28 => ?_)
      obtain rfl : x27 = nI (pm_fav S f 1 1) := e28.trans (rfl)
      refine lv_iconst (v := nI 1) hx hb dX2_noteChoice_49 (by decide) ?_
      refine kx_iadd hx hb dX2_noteChoice_50 ?_
      refine kx_iast (ws' := pm_sh y q (pm_vn ((pm_ch0 S f 1) 9)) (pm_vn ((pm_ch0 S f 1) 0)) (pm_vt ((pm_ch0 S f 1) 4)) (pm_vc ((pm_ch0 S f 1) 4)) (pm_vn ((pm_ch0 S f 1) 1)) (pm_vn ((pm_ch0 S f 1) 2)) (pm_vi ((pm_ch0 S f 1) 3)) (pm_vn ((pm_ch0 S f 1) 5)) (pm_vn ((pm_ch0 S f 1) 6)) (pm_vn ((pm_ch0 S f 1) 7)) (pm_vn (updN ((pm_ch0 S f 1) 8) 1 ((pm_fav S f 1 1) + 1))) (pm_vn ((pm_ch0 S f 1) 11)) (nI ((pm_ch0 S f 1) 10 0)) (nI ((pm_ch0 S f 1) 10 1)) (nI ((pm_ch0 S f 1) 10 2))) hx hb hK hP hD hS 11 0 rfl rfl (by omega) (by decide) (pm_vn_u ((pm_ch0 S f 1) 8) 1 ((pm_fav S f 1 1) + 1)) rfl dX2_noteChoice_51 (fun H locs hP hD hS => ?_)
      have hP : va_P D vwCl (pm_shS y q (pm_ch0 S f 2)) H := by rw [show pm_ch0 S f 2 = _ from by first | exact pm_ch0_p (n := 1) (by assumption) | exact pm_ch0_n (n := 1) (by assumption)]; exact hP
      have hD : va_D (pm_ad (pm_shS y q S)) (pm_shS y q (pm_ch0 S f 2)) := by rw [show pm_ch0 S f 2 = _ from by first | exact pm_ch0_p (n := 1) (by assumption) | exact pm_ch0_n (n := 1) (by assumption)]; exact hD
      refine lv_iinc (v := nI 2) (lv' := [(2, .int (nI 2)), (0, .ref (q 0)), (1, .int (nI f))]) hx hb dX2_noteChoice_52 hl (k := 0) rfl (by decide) (by decide) rfl (fun ls hl => ?_)
      refine lv_goto (tgt := 27) hx hb dX2_noteChoice_55 (by decide) ?_
      refine lv_iload_n hx hb dX2_noteChoice_27 rfl (lv_at hl 0 rfl) ?_
      refine lv_iconst (v := nI 3) hx hb dX2_noteChoice_28 (by decide) ?_
      refine lv_icmp_ge (tgt := 58) hx hb dX2_noteChoice_29 (by decide) (fun c29 => absurd c29 (by decide)) (fun _ => ?_)
      refine lv_aload_n hx hb dX2_noteChoice_32 rfl (lv_at hl 1 rfl) ?_
      refine lv_iload_n hx hb dX2_noteChoice_33 rfl (lv_at hl 0 rfl) ?_
      refine lv_iload_n hx hb dX2_noteChoice_34 rfl (lv_at hl 2 rfl) ?_
      refine vp_callSi (W.runV (As := [.int (nI 2), .int (nI f)]) (rest := []) ⟨hx, hb, hml, hown, hts⟩ (k_X2_markOf l D y q (pm_ch0 S f 2) 2 f ho (by omega) (by omega)) (cwV 2 hts gX2_noteChoice_X2_markOf rfl rfl rfl hd_X2_markOf ⟨Nat.le_of_ble_eq_true rfl, Nat.le_of_ble_eq_true rfl⟩) ⟨pm_ro_blind, va_recv hK hP (ci := 2) (q0 := 0) rfl rfl, pm_ro_pre hP hK⟩ rfl rfl hl.1 rfl (lv_room (Nat.le_of_ble_eq_true rfl)) dX2_noteChoice_35 ⟨Nat.le_of_ble_eq_true rfl, Nat.le_of_ble_eq_true rfl⟩) (fun r30 h31 => ?_)
      obtain rfl : r30 = nI (pm_mk ((pm_ch0 S f 2) 4 f) 2) := h31
      have := pm_lt4 ((pm_ch0 S f 2) 4 f) 2
      refine lv_topi (fun x32 e33 => ?_)
      obtain rfl : x32 = nI (pm_mk (S 4 f) 2) := e33.trans (rfl)
      have := pm_lt4 (S 4 f) 2
      refine lv_iconst (v := nI 1) hx hb dX2_noteChoice_38 (by decide) ?_
      refine kx_icmp_ne (tgt := 52) hx hb (by omega) (by decide) dX2_noteChoice_39 (by decide) (fun c34 => ?_) (fun c34 => ?_)
      · skip
        have hP : va_P D vwCl (pm_shS y q (pm_ch0 S f 3)) H := by rw [show pm_ch0 S f 3 = _ from by first | exact pm_ch0_p (n := 2) (by assumption) | exact pm_ch0_n (n := 2) (by assumption)]; exact hP
        have hD : va_D (pm_ad (pm_shS y q S)) (pm_shS y q (pm_ch0 S f 3)) := by rw [show pm_ch0 S f 3 = _ from by first | exact pm_ch0_p (n := 2) (by assumption) | exact pm_ch0_n (n := 2) (by assumption)]; exact hD
        refine lv_iinc (v := nI 3) (lv' := [(2, .int (nI 3)), (0, .ref (q 0)), (1, .int (nI f))]) hx hb dX2_noteChoice_52 hl (k := 0) rfl (by decide) (by decide) rfl (fun ls hl => ?_)
        refine lv_goto (tgt := 27) hx hb dX2_noteChoice_55 (by decide) ?_
        refine lv_iload_n hx hb dX2_noteChoice_27 rfl (lv_at hl 0 rfl) ?_
        refine lv_iconst (v := nI 3) hx hb dX2_noteChoice_28 (by decide) ?_
        refine lv_icmp_ge (tgt := 58) hx hb dX2_noteChoice_29 (by decide) (fun _ => ?_) (fun c35 => (c35 (by decide)).elim)
        exact W.vret hx hb hr (fun t ht _ => ⟨⟨(), rfl, trivial, (by show va_P D vwCl (pm_shS y q (pm_chs S f)) t.heap; rw [ht]; exact hP)⟩, hS.F ht⟩) hS.2.2 dX2_noteChoice_58
      · skip
        refine lv_aload_n hx hb dX2_noteChoice_42 rfl (lv_at hl 1 rfl) ?_
        refine va_get (D := D) (ci := 2) (v := .ref (q 11)) (C := RX2) (T := TX2) (N := 15) hx hb hts hin2 hown hK hP 0 rfl rfl 10 (by decide) (hts (.fieldLink RX2 42 "ProofMarks$Sheet" "favourites" "[I") (List.mem_of_getElem? (i := 5) rfl)) (fun _ h9 => h9) rfl dX2_noteChoice_43 ?_
        refine lv_iload_n hx hb dX2_noteChoice_46 rfl (lv_at hl 0 rfl) ?_
        refine lv_dup2_11 hx hb dX2_noteChoice_47 rfl rfl ?_
        refine kx_iald (v := nI (((pm_ch0 S f 2) 8) 2)) hx hb hK hP 11 0 rfl rfl (by omega) (by decide) rfl dX2_noteChoice_48 ?_
        refine lv_topi (fun x36 e37 => ?_)
        obtain rfl : x36 = nI (pm_fav S f 2 2) := e37.trans (rfl)
        refine lv_iconst (v := nI 1) hx hb dX2_noteChoice_49 (by decide) ?_
        refine kx_iadd hx hb dX2_noteChoice_50 ?_
        refine kx_iast (ws' := pm_sh y q (pm_vn ((pm_ch0 S f 2) 9)) (pm_vn ((pm_ch0 S f 2) 0)) (pm_vt ((pm_ch0 S f 2) 4)) (pm_vc ((pm_ch0 S f 2) 4)) (pm_vn ((pm_ch0 S f 2) 1)) (pm_vn ((pm_ch0 S f 2) 2)) (pm_vi ((pm_ch0 S f 2) 3)) (pm_vn ((pm_ch0 S f 2) 5)) (pm_vn ((pm_ch0 S f 2) 6)) (pm_vn ((pm_ch0 S f 2) 7)) (pm_vn (updN ((pm_ch0 S f 2) 8) 2 ((pm_fav S f 2 2) + 1))) (pm_vn ((pm_ch0 S f 2) 11)) (nI ((pm_ch0 S f 2) 10 0)) (nI ((pm_ch0 S f 2) 10 1)) (nI ((pm_ch0 S f 2) 10 2))) hx hb hK hP hD hS 11 0 rfl rfl (by omega) (by decide) (pm_vn_u ((pm_ch0 S f 2) 8) 2 ((pm_fav S f 2 2) + 1)) rfl dX2_noteChoice_51 (fun H locs hP hD hS => ?_)
        have hP : va_P D vwCl (pm_shS y q (pm_ch0 S f 3)) H := by rw [show pm_ch0 S f 3 = _ from by first | exact pm_ch0_p (n := 2) (by assumption) | exact pm_ch0_n (n := 2) (by assumption)]; exact hP
        have hD : va_D (pm_ad (pm_shS y q S)) (pm_shS y q (pm_ch0 S f 3)) := by rw [show pm_ch0 S f 3 = _ from by first | exact pm_ch0_p (n := 2) (by assumption) | exact pm_ch0_n (n := 2) (by assumption)]; exact hD
        refine lv_iinc (v := nI 3) (lv' := [(2, .int (nI 3)), (0, .ref (q 0)), (1, .int (nI f))]) hx hb dX2_noteChoice_52 hl (k := 0) rfl (by decide) (by decide) rfl (fun ls hl => ?_)
        refine lv_goto (tgt := 27) hx hb dX2_noteChoice_55 (by decide) ?_
        refine lv_iload_n hx hb dX2_noteChoice_27 rfl (lv_at hl 0 rfl) ?_
        refine lv_iconst (v := nI 3) hx hb dX2_noteChoice_28 (by decide) ?_
        refine lv_icmp_ge (tgt := 58) hx hb dX2_noteChoice_29 (by decide) (fun _ => ?_) (fun c38 => (c38 (by decide)).elim)
        exact W.vret hx hb hr (fun t ht _ => ⟨⟨(), rfl, trivial, (by show va_P D vwCl (pm_shS y q (pm_chs S f)) t.heap; rw [ht]; exact hP)⟩, hS.F ht⟩) hS.2.2 dX2_noteChoice_58
  · skip
    refine lv_aload_n hx hb dX2_noteChoice_42 rfl (lv_at hl 1 rfl) ?_
    refine va_get (D := D) (ci := 2) (v := .ref (q 11)) (C := RX2) (T := TX2) (N := 15) hx hb hts hin2 hown hK hP 0 rfl rfl 10 (by decide) (hts (.fieldLink RX2 42 "ProofMarks$Sheet" "favourites" "[I") (List.mem_of_getElem? (i := 5) rfl)) (fun _ h9 => h9) rfl dX2_noteChoice_43 ?_
    refine lv_iload_n hx hb dX2_noteChoice_46 rfl (lv_at hl 0 rfl) ?_
    refine lv_dup2_11 hx hb dX2_noteChoice_47 rfl rfl ?_
    refine kx_iald (v := nI (((pm_ch0 S f 0) 8) 0)) hx hb hK hP 11 0 rfl rfl (by omega) (by decide) rfl dX2_noteChoice_48 ?_
    refine lv_topi (fun x39 e40 => ?_)
    obtain rfl : x39 = nI (pm_fav S f 0 0) := e40.trans (rfl)
    refine lv_iconst (v := nI 1) hx hb dX2_noteChoice_49 (by decide) ?_
    refine kx_iadd hx hb dX2_noteChoice_50 ?_
    refine kx_iast (ws' := pm_sh y q (pm_vn ((pm_ch0 S f 0) 9)) (pm_vn ((pm_ch0 S f 0) 0)) (pm_vt ((pm_ch0 S f 0) 4)) (pm_vc ((pm_ch0 S f 0) 4)) (pm_vn ((pm_ch0 S f 0) 1)) (pm_vn ((pm_ch0 S f 0) 2)) (pm_vi ((pm_ch0 S f 0) 3)) (pm_vn ((pm_ch0 S f 0) 5)) (pm_vn ((pm_ch0 S f 0) 6)) (pm_vn ((pm_ch0 S f 0) 7)) (pm_vn (updN ((pm_ch0 S f 0) 8) 0 ((pm_fav S f 0 0) + 1))) (pm_vn ((pm_ch0 S f 0) 11)) (nI ((pm_ch0 S f 0) 10 0)) (nI ((pm_ch0 S f 0) 10 1)) (nI ((pm_ch0 S f 0) 10 2))) hx hb hK hP hD hS 11 0 rfl rfl (by omega) (by decide) (pm_vn_u ((pm_ch0 S f 0) 8) 0 ((pm_fav S f 0 0) + 1)) rfl dX2_noteChoice_51 (fun H locs hP hD hS => ?_)
    have hP : va_P D vwCl (pm_shS y q (pm_ch0 S f 1)) H := by rw [show pm_ch0 S f 1 = _ from by first | exact pm_ch0_p (n := 0) (by assumption) | exact pm_ch0_n (n := 0) (by assumption)]; exact hP
    have hD : va_D (pm_ad (pm_shS y q S)) (pm_shS y q (pm_ch0 S f 1)) := by rw [show pm_ch0 S f 1 = _ from by first | exact pm_ch0_p (n := 0) (by assumption) | exact pm_ch0_n (n := 0) (by assumption)]; exact hD
    refine lv_iinc (v := nI 1) (lv' := [(2, .int (nI 1)), (0, .ref (q 0)), (1, .int (nI f))]) hx hb dX2_noteChoice_52 hl (k := 0) rfl (by decide) (by decide) rfl (fun ls hl => ?_)
    refine lv_goto (tgt := 27) hx hb dX2_noteChoice_55 (by decide) ?_
    refine lv_iload_n hx hb dX2_noteChoice_27 rfl (lv_at hl 0 rfl) ?_
    refine lv_iconst (v := nI 3) hx hb dX2_noteChoice_28 (by decide) ?_
    refine lv_icmp_ge (tgt := 58) hx hb dX2_noteChoice_29 (by decide) (fun c41 => absurd c41 (by decide)) (fun _ => ?_)
    refine lv_aload_n hx hb dX2_noteChoice_32 rfl (lv_at hl 1 rfl) ?_
    refine lv_iload_n hx hb dX2_noteChoice_33 rfl (lv_at hl 0 rfl) ?_
    refine lv_iload_n hx hb dX2_noteChoice_34 rfl (lv_at hl 2 rfl) ?_
    refine vp_callSi (W.runV (As := [.int (nI 1), .int (nI f)]) (rest := []) ⟨hx, hb, hml, hown, hts⟩ (k_X2_markOf l D y q (pm_ch0 S f 1) 1 f ho (by omega) (by omega)) (cwV 2 hts gX2_noteChoice_X2_markOf rfl rfl rfl hd_X2_markOf ⟨Nat.le_of_ble_eq_true rfl, Nat.le_of_ble_eq_true rfl⟩) ⟨pm_ro_blind, va_recv hK hP (ci := 2) (q0 := 0) rfl rfl, pm_ro_pre hP hK⟩ rfl rfl hl.1 rfl (lv_room (Nat.le_of_ble_eq_true rfl)) dX2_noteChoice_35 ⟨Nat.le_of_ble_eq_true rfl, Nat.le_of_ble_eq_true rfl⟩) (fun r42 h43 => ?_)
    obtain rfl : r42 = nI (pm_mk ((pm_ch0 S f 1) 4 f) 1) := h43
    have := pm_lt4 ((pm_ch0 S f 1) 4 f) 1
    refine lv_topi (fun x44 e45 => ?_)
    obtain rfl : x44 = nI (pm_mk (S 4 f) 1) := e45.trans (rfl)
    have := pm_lt4 (S 4 f) 1
    refine lv_iconst (v := nI 1) hx hb dX2_noteChoice_38 (by decide) ?_
    refine kx_icmp_ne (tgt := 52) hx hb (by omega) (by decide) dX2_noteChoice_39 (by decide) (fun c46 => ?_) (fun c46 => ?_)
    · skip
      have hP : va_P D vwCl (pm_shS y q (pm_ch0 S f 2)) H := by rw [show pm_ch0 S f 2 = _ from by first | exact pm_ch0_p (n := 1) (by assumption) | exact pm_ch0_n (n := 1) (by assumption)]; exact hP
      have hD : va_D (pm_ad (pm_shS y q S)) (pm_shS y q (pm_ch0 S f 2)) := by rw [show pm_ch0 S f 2 = _ from by first | exact pm_ch0_p (n := 1) (by assumption) | exact pm_ch0_n (n := 1) (by assumption)]; exact hD
      refine lv_iinc (v := nI 2) (lv' := [(2, .int (nI 2)), (0, .ref (q 0)), (1, .int (nI f))]) hx hb dX2_noteChoice_52 hl (k := 0) rfl (by decide) (by decide) rfl (fun ls hl => ?_)
      refine lv_goto (tgt := 27) hx hb dX2_noteChoice_55 (by decide) ?_
      refine lv_iload_n hx hb dX2_noteChoice_27 rfl (lv_at hl 0 rfl) ?_
      refine lv_iconst (v := nI 3) hx hb dX2_noteChoice_28 (by decide) ?_
      refine lv_icmp_ge (tgt := 58) hx hb dX2_noteChoice_29 (by decide) (fun c47 => absurd c47 (by decide)) (fun _ => ?_)
      refine lv_aload_n hx hb dX2_noteChoice_32 rfl (lv_at hl 1 rfl) ?_
      refine lv_iload_n hx hb dX2_noteChoice_33 rfl (lv_at hl 0 rfl) ?_
      refine lv_iload_n hx hb dX2_noteChoice_34 rfl (lv_at hl 2 rfl) ?_
      refine vp_callSi (W.runV (As := [.int (nI 2), .int (nI f)]) (rest := []) ⟨hx, hb, hml, hown, hts⟩ (k_X2_markOf l D y q (pm_ch0 S f 2) 2 f ho (by omega) (by omega)) (cwV 2 hts gX2_noteChoice_X2_markOf rfl rfl rfl hd_X2_markOf ⟨Nat.le_of_ble_eq_true rfl, Nat.le_of_ble_eq_true rfl⟩) ⟨pm_ro_blind, va_recv hK hP (ci := 2) (q0 := 0) rfl rfl, pm_ro_pre hP hK⟩ rfl rfl hl.1 rfl (lv_room (Nat.le_of_ble_eq_true rfl)) dX2_noteChoice_35 ⟨Nat.le_of_ble_eq_true rfl, Nat.le_of_ble_eq_true rfl⟩) (fun r48 h49 => ?_)
      obtain rfl : r48 = nI (pm_mk ((pm_ch0 S f 2) 4 f) 2) := h49
      have := pm_lt4 ((pm_ch0 S f 2) 4 f) 2
      refine lv_topi (fun x50 e51 => ?_)
      obtain rfl : x50 = nI (pm_mk (S 4 f) 2) := e51.trans (rfl)
      have := pm_lt4 (S 4 f) 2
      refine lv_iconst (v := nI 1) hx hb dX2_noteChoice_38 (by decide) ?_
      refine kx_icmp_ne (tgt := 52) hx hb (by omega) (by decide) dX2_noteChoice_39 (by decide) (fun c52 => ?_) (fun c52 => ?_)
      · skip
        have hP : va_P D vwCl (pm_shS y q (pm_ch0 S f 3)) H := by rw [show pm_ch0 S f 3 = _ from by first | exact pm_ch0_p (n := 2) (by assumption) | exact pm_ch0_n (n := 2) (by assumption)]; exact hP
        have hD : va_D (pm_ad (pm_shS y q S)) (pm_shS y q (pm_ch0 S f 3)) := by rw [show pm_ch0 S f 3 = _ from by first | exact pm_ch0_p (n := 2) (by assumption) | exact pm_ch0_n (n := 2) (by assumption)]; exact hD
        refine lv_iinc (v := nI 3) (lv' := [(2, .int (nI 3)), (0, .ref (q 0)), (1, .int (nI f))]) hx hb dX2_noteChoice_52 hl (k := 0) rfl (by decide) (by decide) rfl (fun ls hl => ?_)
        refine lv_goto (tgt := 27) hx hb dX2_noteChoice_55 (by decide) ?_
        refine lv_iload_n hx hb dX2_noteChoice_27 rfl (lv_at hl 0 rfl) ?_
        refine lv_iconst (v := nI 3) hx hb dX2_noteChoice_28 (by decide) ?_
        refine lv_icmp_ge (tgt := 58) hx hb dX2_noteChoice_29 (by decide) (fun _ => ?_) (fun c53 => (c53 (by decide)).elim)
        exact W.vret hx hb hr (fun t ht _ => ⟨⟨(), rfl, trivial, (by show va_P D vwCl (pm_shS y q (pm_chs S f)) t.heap; rw [ht]; exact hP)⟩, hS.F ht⟩) hS.2.2 dX2_noteChoice_58
      · skip
        refine lv_aload_n hx hb dX2_noteChoice_42 rfl (lv_at hl 1 rfl) ?_
        refine va_get (D := D) (ci := 2) (v := .ref (q 11)) (C := RX2) (T := TX2) (N := 15) hx hb hts hin2 hown hK hP 0 rfl rfl 10 (by decide) (hts (.fieldLink RX2 42 "ProofMarks$Sheet" "favourites" "[I") (List.mem_of_getElem? (i := 5) rfl)) (fun _ h9 => h9) rfl dX2_noteChoice_43 ?_
        refine lv_iload_n hx hb dX2_noteChoice_46 rfl (lv_at hl 0 rfl) ?_
        refine lv_dup2_11 hx hb dX2_noteChoice_47 rfl rfl ?_
        refine kx_iald (v := nI (((pm_ch0 S f 2) 8) 2)) hx hb hK hP 11 0 rfl rfl (by omega) (by decide) rfl dX2_noteChoice_48 ?_
        refine lv_topi (fun x54 e55 => ?_)
        obtain rfl : x54 = nI (pm_fav S f 2 2) := e55.trans (rfl)
        refine lv_iconst (v := nI 1) hx hb dX2_noteChoice_49 (by decide) ?_
        refine kx_iadd hx hb dX2_noteChoice_50 ?_
        refine kx_iast (ws' := pm_sh y q (pm_vn ((pm_ch0 S f 2) 9)) (pm_vn ((pm_ch0 S f 2) 0)) (pm_vt ((pm_ch0 S f 2) 4)) (pm_vc ((pm_ch0 S f 2) 4)) (pm_vn ((pm_ch0 S f 2) 1)) (pm_vn ((pm_ch0 S f 2) 2)) (pm_vi ((pm_ch0 S f 2) 3)) (pm_vn ((pm_ch0 S f 2) 5)) (pm_vn ((pm_ch0 S f 2) 6)) (pm_vn ((pm_ch0 S f 2) 7)) (pm_vn (updN ((pm_ch0 S f 2) 8) 2 ((pm_fav S f 2 2) + 1))) (pm_vn ((pm_ch0 S f 2) 11)) (nI ((pm_ch0 S f 2) 10 0)) (nI ((pm_ch0 S f 2) 10 1)) (nI ((pm_ch0 S f 2) 10 2))) hx hb hK hP hD hS 11 0 rfl rfl (by omega) (by decide) (pm_vn_u ((pm_ch0 S f 2) 8) 2 ((pm_fav S f 2 2) + 1)) rfl dX2_noteChoice_51 (fun H locs hP hD hS => ?_)
        have hP : va_P D vwCl (pm_shS y q (pm_ch0 S f 3)) H := by rw [show pm_ch0 S f 3 = _ from by first | exact pm_ch0_p (n := 2) (by assumption) | exact pm_ch0_n (n := 2) (by assumption)]; exact hP
        have hD : va_D (pm_ad (pm_shS y q S)) (pm_shS y q (pm_ch0 S f 3)) := by rw [show pm_ch0 S f 3 = _ from by first | exact pm_ch0_p (n := 2) (by assumption) | exact pm_ch0_n (n := 2) (by assumption)]; exact hD
        refine lv_iinc (v := nI 3) (lv' := [(2, .int (nI 3)), (0, .ref (q 0)), (1, .int (nI f))]) hx hb dX2_noteChoice_52 hl (k := 0) rfl (by decide) (by decide) rfl (fun ls hl => ?_)
        refine lv_goto (tgt := 27) hx hb dX2_noteChoice_55 (by decide) ?_
        refine lv_iload_n hx hb dX2_noteChoice_27 rfl (lv_at hl 0 rfl) ?_
        refine lv_iconst (v := nI 3) hx hb dX2_noteChoice_28 (by decide) ?_
        refine lv_icmp_ge (tgt := 58) hx hb dX2_noteChoice_29 (by decide) (fun _ => ?_) (fun c56 => (c56 (by decide)).elim)
        exact W.vret hx hb hr (fun t ht _ => ⟨⟨(), rfl, trivial, (by show va_P D vwCl (pm_shS y q (pm_chs S f)) t.heap; rw [ht]; exact hP)⟩, hS.F ht⟩) hS.2.2 dX2_noteChoice_58
    · skip
      refine lv_aload_n hx hb dX2_noteChoice_42 rfl (lv_at hl 1 rfl) ?_
      refine va_get (D := D) (ci := 2) (v := .ref (q 11)) (C := RX2) (T := TX2) (N := 15) hx hb hts hin2 hown hK hP 0 rfl rfl 10 (by decide) (hts (.fieldLink RX2 42 "ProofMarks$Sheet" "favourites" "[I") (List.mem_of_getElem? (i := 5) rfl)) (fun _ h9 => h9) rfl dX2_noteChoice_43 ?_
      refine lv_iload_n hx hb dX2_noteChoice_46 rfl (lv_at hl 0 rfl) ?_
      refine lv_dup2_11 hx hb dX2_noteChoice_47 rfl rfl ?_
      refine kx_iald (v := nI (((pm_ch0 S f 1) 8) 1)) hx hb hK hP 11 0 rfl rfl (by omega) (by decide) rfl dX2_noteChoice_48 ?_
      refine lv_topi (fun x57 e58 => ?_)
      obtain rfl : x57 = nI (pm_fav S f 1 1) := e58.trans (rfl)
      refine lv_iconst (v := nI 1) hx hb dX2_noteChoice_49 (by decide) ?_
      refine kx_iadd hx hb dX2_noteChoice_50 ?_
      refine kx_iast (ws' := pm_sh y q (pm_vn ((pm_ch0 S f 1) 9)) (pm_vn ((pm_ch0 S f 1) 0)) (pm_vt ((pm_ch0 S f 1) 4)) (pm_vc ((pm_ch0 S f 1) 4)) (pm_vn ((pm_ch0 S f 1) 1)) (pm_vn ((pm_ch0 S f 1) 2)) (pm_vi ((pm_ch0 S f 1) 3)) (pm_vn ((pm_ch0 S f 1) 5)) (pm_vn ((pm_ch0 S f 1) 6)) (pm_vn ((pm_ch0 S f 1) 7)) (pm_vn (updN ((pm_ch0 S f 1) 8) 1 ((pm_fav S f 1 1) + 1))) (pm_vn ((pm_ch0 S f 1) 11)) (nI ((pm_ch0 S f 1) 10 0)) (nI ((pm_ch0 S f 1) 10 1)) (nI ((pm_ch0 S f 1) 10 2))) hx hb hK hP hD hS 11 0 rfl rfl (by omega) (by decide) (pm_vn_u ((pm_ch0 S f 1) 8) 1 ((pm_fav S f 1 1) + 1)) rfl dX2_noteChoice_51 (fun H locs hP hD hS => ?_)
      have hP : va_P D vwCl (pm_shS y q (pm_ch0 S f 2)) H := by rw [show pm_ch0 S f 2 = _ from by first | exact pm_ch0_p (n := 1) (by assumption) | exact pm_ch0_n (n := 1) (by assumption)]; exact hP
      have hD : va_D (pm_ad (pm_shS y q S)) (pm_shS y q (pm_ch0 S f 2)) := by rw [show pm_ch0 S f 2 = _ from by first | exact pm_ch0_p (n := 1) (by assumption) | exact pm_ch0_n (n := 1) (by assumption)]; exact hD
      refine lv_iinc (v := nI 2) (lv' := [(2, .int (nI 2)), (0, .ref (q 0)), (1, .int (nI f))]) hx hb dX2_noteChoice_52 hl (k := 0) rfl (by decide) (by decide) rfl (fun ls hl => ?_)
      refine lv_goto (tgt := 27) hx hb dX2_noteChoice_55 (by decide) ?_
      refine lv_iload_n hx hb dX2_noteChoice_27 rfl (lv_at hl 0 rfl) ?_
      refine lv_iconst (v := nI 3) hx hb dX2_noteChoice_28 (by decide) ?_
      refine lv_icmp_ge (tgt := 58) hx hb dX2_noteChoice_29 (by decide) (fun c59 => absurd c59 (by decide)) (fun _ => ?_)
      refine lv_aload_n hx hb dX2_noteChoice_32 rfl (lv_at hl 1 rfl) ?_
      refine lv_iload_n hx hb dX2_noteChoice_33 rfl (lv_at hl 0 rfl) ?_
      refine lv_iload_n hx hb dX2_noteChoice_34 rfl (lv_at hl 2 rfl) ?_
      refine vp_callSi (W.runV (As := [.int (nI 2), .int (nI f)]) (rest := []) ⟨hx, hb, hml, hown, hts⟩ (k_X2_markOf l D y q (pm_ch0 S f 2) 2 f ho (by omega) (by omega)) (cwV 2 hts gX2_noteChoice_X2_markOf rfl rfl rfl hd_X2_markOf ⟨Nat.le_of_ble_eq_true rfl, Nat.le_of_ble_eq_true rfl⟩) ⟨pm_ro_blind, va_recv hK hP (ci := 2) (q0 := 0) rfl rfl, pm_ro_pre hP hK⟩ rfl rfl hl.1 rfl (lv_room (Nat.le_of_ble_eq_true rfl)) dX2_noteChoice_35 ⟨Nat.le_of_ble_eq_true rfl, Nat.le_of_ble_eq_true rfl⟩) (fun r60 h61 => ?_)
      obtain rfl : r60 = nI (pm_mk ((pm_ch0 S f 2) 4 f) 2) := h61
      have := pm_lt4 ((pm_ch0 S f 2) 4 f) 2
      refine lv_topi (fun x62 e63 => ?_)
      obtain rfl : x62 = nI (pm_mk (S 4 f) 2) := e63.trans (rfl)
      have := pm_lt4 (S 4 f) 2
      refine lv_iconst (v := nI 1) hx hb dX2_noteChoice_38 (by decide) ?_
      refine kx_icmp_ne (tgt := 52) hx hb (by omega) (by decide) dX2_noteChoice_39 (by decide) (fun c64 => ?_) (fun c64 => ?_)
      · skip
        have hP : va_P D vwCl (pm_shS y q (pm_ch0 S f 3)) H := by rw [show pm_ch0 S f 3 = _ from by first | exact pm_ch0_p (n := 2) (by assumption) | exact pm_ch0_n (n := 2) (by assumption)]; exact hP
        have hD : va_D (pm_ad (pm_shS y q S)) (pm_shS y q (pm_ch0 S f 3)) := by rw [show pm_ch0 S f 3 = _ from by first | exact pm_ch0_p (n := 2) (by assumption) | exact pm_ch0_n (n := 2) (by assumption)]; exact hD
        refine lv_iinc (v := nI 3) (lv' := [(2, .int (nI 3)), (0, .ref (q 0)), (1, .int (nI f))]) hx hb dX2_noteChoice_52 hl (k := 0) rfl (by decide) (by decide) rfl (fun ls hl => ?_)
        refine lv_goto (tgt := 27) hx hb dX2_noteChoice_55 (by decide) ?_
        refine lv_iload_n hx hb dX2_noteChoice_27 rfl (lv_at hl 0 rfl) ?_
        refine lv_iconst (v := nI 3) hx hb dX2_noteChoice_28 (by decide) ?_
        refine lv_icmp_ge (tgt := 58) hx hb dX2_noteChoice_29 (by decide) (fun _ => ?_) (fun c65 => (c65 (by decide)).elim)
        exact W.vret hx hb hr (fun t ht _ => ⟨⟨(), rfl, trivial, (by show va_P D vwCl (pm_shS y q (pm_chs S f)) t.heap; rw [ht]; exact hP)⟩, hS.F ht⟩) hS.2.2 dX2_noteChoice_58
      · skip
        refine lv_aload_n hx hb dX2_noteChoice_42 rfl (lv_at hl 1 rfl) ?_
        refine va_get (D := D) (ci := 2) (v := .ref (q 11)) (C := RX2) (T := TX2) (N := 15) hx hb hts hin2 hown hK hP 0 rfl rfl 10 (by decide) (hts (.fieldLink RX2 42 "ProofMarks$Sheet" "favourites" "[I") (List.mem_of_getElem? (i := 5) rfl)) (fun _ h9 => h9) rfl dX2_noteChoice_43 ?_
        refine lv_iload_n hx hb dX2_noteChoice_46 rfl (lv_at hl 0 rfl) ?_
        refine lv_dup2_11 hx hb dX2_noteChoice_47 rfl rfl ?_
        refine kx_iald (v := nI (((pm_ch0 S f 2) 8) 2)) hx hb hK hP 11 0 rfl rfl (by omega) (by decide) rfl dX2_noteChoice_48 ?_
        refine lv_topi (fun x66 e67 => ?_)
        obtain rfl : x66 = nI (pm_fav S f 2 2) := e67.trans (rfl)
        refine lv_iconst (v := nI 1) hx hb dX2_noteChoice_49 (by decide) ?_
        refine kx_iadd hx hb dX2_noteChoice_50 ?_
        refine kx_iast (ws' := pm_sh y q (pm_vn ((pm_ch0 S f 2) 9)) (pm_vn ((pm_ch0 S f 2) 0)) (pm_vt ((pm_ch0 S f 2) 4)) (pm_vc ((pm_ch0 S f 2) 4)) (pm_vn ((pm_ch0 S f 2) 1)) (pm_vn ((pm_ch0 S f 2) 2)) (pm_vi ((pm_ch0 S f 2) 3)) (pm_vn ((pm_ch0 S f 2) 5)) (pm_vn ((pm_ch0 S f 2) 6)) (pm_vn ((pm_ch0 S f 2) 7)) (pm_vn (updN ((pm_ch0 S f 2) 8) 2 ((pm_fav S f 2 2) + 1))) (pm_vn ((pm_ch0 S f 2) 11)) (nI ((pm_ch0 S f 2) 10 0)) (nI ((pm_ch0 S f 2) 10 1)) (nI ((pm_ch0 S f 2) 10 2))) hx hb hK hP hD hS 11 0 rfl rfl (by omega) (by decide) (pm_vn_u ((pm_ch0 S f 2) 8) 2 ((pm_fav S f 2 2) + 1)) rfl dX2_noteChoice_51 (fun H locs hP hD hS => ?_)
        have hP : va_P D vwCl (pm_shS y q (pm_ch0 S f 3)) H := by rw [show pm_ch0 S f 3 = _ from by first | exact pm_ch0_p (n := 2) (by assumption) | exact pm_ch0_n (n := 2) (by assumption)]; exact hP
        have hD : va_D (pm_ad (pm_shS y q S)) (pm_shS y q (pm_ch0 S f 3)) := by rw [show pm_ch0 S f 3 = _ from by first | exact pm_ch0_p (n := 2) (by assumption) | exact pm_ch0_n (n := 2) (by assumption)]; exact hD
        refine lv_iinc (v := nI 3) (lv' := [(2, .int (nI 3)), (0, .ref (q 0)), (1, .int (nI f))]) hx hb dX2_noteChoice_52 hl (k := 0) rfl (by decide) (by decide) rfl (fun ls hl => ?_)
        refine lv_goto (tgt := 27) hx hb dX2_noteChoice_55 (by decide) ?_
        refine lv_iload_n hx hb dX2_noteChoice_27 rfl (lv_at hl 0 rfl) ?_
        refine lv_iconst (v := nI 3) hx hb dX2_noteChoice_28 (by decide) ?_
        refine lv_icmp_ge (tgt := 58) hx hb dX2_noteChoice_29 (by decide) (fun _ => ?_) (fun c68 => (c68 (by decide)).elim)
        exact W.vret hx hb hr (fun t ht _ => ⟨⟨(), rfl, trivial, (by show va_P D vwCl (pm_shS y q (pm_chs S f)) t.heap; rw [ht]; exact hP)⟩, hS.F ht⟩) hS.2.2 dX2_noteChoice_58

set_option maxHeartbeats 4000000 in
set_option maxRecDepth 100000 in
theorem k_X2_settle (l : Launch) (D : va_G) (y : Nat → ClassId) (q : Nat → Nat) (S : Nat → Nat → Nat) (f : Nat) (ho : pm_okb (S 4 f) = true) (hs : S 9 0 ≤ 9) (hs3 : S 9 3 ≤ 9) (hd : S 1 f ≤ 99) (hrd : S 10 0 ≤ 99) (hf : f < 30) : Met l yX2_settle wsX2_settle ({ frames := 3, cells := 0, slots := 0, locals := 64 } : Room) (pm_wr D (pm_ty y) [.ref (q 0), .int (nI f)] (pm_shS y q S)) (pm_Qi D (fun (r : Int32) (_ : Unit) => r = nI (pm_aft S f)) (fun (_ : Unit) => pm_shS y q (pm_jdg S f)) (pm_shS y q S)) 0 0 (pm_ad (pm_shS y q S)) := by
  refine Met.ofW (cc := cX2_settle) (maxL := 3) (ret := (some .int)) (by decide) rfl ?_
  intro p e s m args below meth c s₁ B hml hpre
  obtain ⟨rfl, hP, hK, hD0⟩ := hpre
  have hx := B.exec
  have hb := B.bytes
  have hr := B.returns
  have hts := atoms_spec (ws := wsX2_settle) B.pre
  have hown : s.vm.findClass RX2 = some m.cls := findClass_of_methodNamed B.named
  have hlocks := B.notSynchronized
  have hin2 : ∀ w ∈ u_ws RX2 TX2 15, w ∈ wsX2_settle := fun w h => List.mem_cons_of_mem _ (List.mem_append_right _ h)
  have hD := pm_ad_self hD0
  have hS : va_S (pm_ad (pm_shS y q S)) s.heap s.heap [] := va_S.rf
  have hP : va_P D vwCl (pm_shS y q S) s.heap := hP
  have hl := lv_entry ([.ref (q 0), .int (nI f)]) (n := 3) (Nat.le_of_ble_eq_true rfl)
  rw [lg_entry_eq]
  generalize (lg_sl ([.ref (q 0), .int (nI f)]) ++ List.replicate (3 - (lg_sl ([.ref (q 0), .int (nI f)])).length) Slot.unset).toArray = ls at hl ⊢
  have hl : lv_has ls 3 [(0, .ref (q 0)), (1, .int (nI f))] := hl
  refine lv_aload_n hx hb dX2_settle_0 rfl (lv_at hl 0 rfl) ?_
  refine lv_iload_n hx hb dX2_settle_1 rfl (lv_at hl 1 rfl) ?_
  refine vp_callSi (W.runV (As := [.int (nI f)]) (rest := []) ⟨hx, hb, hml, hown, hts⟩ (k_X2_afterRound l D y q S f ho hs hs3 hd (by omega)) (cwV 1 hts gX2_settle_X2_afterRound rfl rfl rfl hd_X2_afterRound ⟨Nat.le_of_ble_eq_true rfl, Nat.le_of_ble_eq_true rfl⟩) ⟨pm_ro_blind, va_recv hK hP (ci := 2) (q0 := 0) rfl rfl, pm_ro_pre hP hK⟩ rfl rfl hl.1 rfl (lv_room (Nat.le_of_ble_eq_true rfl)) dX2_settle_2 ⟨Nat.le_of_ble_eq_true rfl, Nat.le_of_ble_eq_true rfl⟩) (fun r1 h2 => ?_)
  obtain rfl : r1 = nI (pm_aft S f) := h2
  have := pm_aft3 S f
  refine lv_istore_n (lv' := [(2, .int (nI (pm_aft S f))), (0, .ref (q 0)), (1, .int (nI f))]) hx hb dX2_settle_5 rfl hl (by decide) rfl (fun ls hl => ?_)
  refine lv_iload_n hx hb dX2_settle_6 rfl (lv_at hl 0 rfl) ?_
  refine lv_iconst (v := nI 1) hx hb dX2_settle_7 (by decide) ?_
  refine kx_icmp_ne (tgt := 16) hx hb (by omega) (by decide) dX2_settle_8 (by decide) (fun c3 => ?_) (fun c3 => ?_)
  · skip
    refine lv_aload_n hx hb dX2_settle_16 rfl (lv_at hl 1 rfl) ?_
    refine va_get (D := D) (ci := 2) (v := .ref (q 5)) (C := RX2) (T := TX2) (N := 15) hx hb hts hin2 hown hK hP 0 rfl rfl 4 (by decide) (hts (.fieldLink RX2 24 "ProofMarks$Sheet" "dull" "[I") (List.mem_of_getElem? (i := 1) rfl)) (fun _ h9 => h9) rfl dX2_settle_17 ?_
    refine lv_iload_n hx hb dX2_settle_20 rfl (lv_at hl 2 rfl) ?_
    refine lv_aload_n hx hb dX2_settle_21 rfl (lv_at hl 1 rfl) ?_
    refine lv_iload_n hx hb dX2_settle_22 rfl (lv_at hl 2 rfl) ?_
    refine vp_callSi (W.runV (As := [.int (nI f)]) (rest := [.int (nI f), .ref (q 5)]) ⟨hx, hb, hml, hown, hts⟩ (k_X2_dullAfterRound l D y q S f ho (by omega)) (cwV 1 hts gX2_settle_X2_dullAfterRound rfl rfl rfl hd_X2_dullAfterRound ⟨Nat.le_of_ble_eq_true rfl, Nat.le_of_ble_eq_true rfl⟩) ⟨pm_ro_blind, va_recv hK hP (ci := 2) (q0 := 0) rfl rfl, pm_ro_pre hP hK⟩ rfl rfl hl.1 rfl (lv_room (Nat.le_of_ble_eq_true rfl)) dX2_settle_23 ⟨Nat.le_of_ble_eq_true rfl, Nat.le_of_ble_eq_true rfl⟩) (fun r4 h5 => ?_)
    obtain rfl : r4 = nI (pm_dl S f) := h5
    have := pm_dl_le S f
    refine lv_topi (fun x6 e7 => ?_)
    obtain rfl : x6 = nI (pm_dl S f) := e7.trans (rfl)
    refine kx_iast (ws' := pm_sh y q (pm_vn (S 9)) (pm_vn (S 0)) (pm_vt (S 4)) (pm_vc (S 4)) (pm_vn (updN (S 1) f (pm_dl S f))) (pm_vn (S 2)) (pm_vi (S 3)) (pm_vn (S 5)) (pm_vn (S 6)) (pm_vn (S 7)) (pm_vn (S 8)) (pm_vn (S 11)) (nI (S 10 0)) (nI (S 10 1)) (nI (S 10 2))) hx hb hK hP hD hS 5 0 rfl rfl (by omega) (by decide) (pm_vn_u (S 1) f (pm_dl S f)) rfl dX2_settle_26 (fun H locs hP hD hS => ?_)
    refine lv_aload_n hx hb dX2_settle_27 rfl (lv_at hl 1 rfl) ?_
    refine va_get (D := D) (ci := 2) (v := .ref (q 2)) (C := RX2) (T := TX2) (N := 15) hx hb hts hin2 hown hK hP 0 rfl rfl 1 (by decide) (hts (.fieldLink RX2 15 "ProofMarks$Sheet" "how" "[I") (List.mem_of_getElem? (i := 2) rfl)) (fun _ h9 => h9) rfl dX2_settle_28 ?_
    refine lv_iload_n hx hb dX2_settle_31 rfl (lv_at hl 2 rfl) ?_
    refine lv_iload_n hx hb dX2_settle_32 rfl (lv_at hl 0 rfl) ?_
    refine kx_iast (ws' := pm_sh y q (pm_vn (S 9)) (pm_vn (updN (S 0) f (pm_aft S f))) (pm_vt (S 4)) (pm_vc (S 4)) (pm_vn (updN (S 1) f (pm_dl S f))) (pm_vn (S 2)) (pm_vi (S 3)) (pm_vn (S 5)) (pm_vn (S 6)) (pm_vn (S 7)) (pm_vn (S 8)) (pm_vn (S 11)) (nI (S 10 0)) (nI (S 10 1)) (nI (S 10 2))) hx hb hK hP hD hS 2 0 rfl rfl (by omega) (by decide) (pm_vn_u (S 0) f (pm_aft S f)) rfl dX2_settle_33 (fun H locs hP hD hS => ?_)
    refine lv_aload_n hx hb dX2_settle_34 rfl (lv_at hl 1 rfl) ?_
    refine va_get (D := D) (ci := 2) (v := .ref (q 3)) (C := RX2) (T := TX2) (N := 15) hx hb hts hin2 hown hK hP 0 rfl rfl 2 (by decide) (hts (.fieldLink RX2 18 "ProofMarks$Sheet" "ticks" "[I") (List.mem_of_getElem? (i := 3) rfl)) (fun _ h9 => h9) rfl dX2_settle_35 ?_
    refine lv_iload_n hx hb dX2_settle_38 rfl (lv_at hl 2 rfl) ?_
    refine lv_iconst (v := nI 0) hx hb dX2_settle_39 (by decide) ?_
    refine kx_iast (ws' := pm_sh y q (pm_vn (S 9)) (pm_vn (updN (S 0) f (pm_aft S f))) (pm_vt (updN (S 4) f 0)) (pm_vc (S 4)) (pm_vn (updN (S 1) f (pm_dl S f))) (pm_vn (S 2)) (pm_vi (S 3)) (pm_vn (S 5)) (pm_vn (S 6)) (pm_vn (S 7)) (pm_vn (S 8)) (pm_vn (S 11)) (nI (S 10 0)) (nI (S 10 1)) (nI (S 10 2))) hx hb hK hP hD hS 3 0 rfl rfl (by omega) (by decide) (pm_vt_u (S 4) f 0) rfl dX2_settle_40 (fun H locs hP hD hS => ?_)
    refine lv_aload_n hx hb dX2_settle_41 rfl (lv_at hl 1 rfl) ?_
    refine va_get (D := D) (ci := 2) (v := .ref (q 4)) (C := RX2) (T := TX2) (N := 15) hx hb hts hin2 hown hK hP 0 rfl rfl 3 (by decide) (hts (.fieldLink RX2 21 "ProofMarks$Sheet" "crosses" "[I") (List.mem_of_getElem? (i := 4) rfl)) (fun _ h9 => h9) rfl dX2_settle_42 ?_
    refine lv_iload_n hx hb dX2_settle_45 rfl (lv_at hl 2 rfl) ?_
    refine lv_iconst (v := nI 0) hx hb dX2_settle_46 (by decide) ?_
    refine kx_iast (ws' := pm_sh y q (pm_vn (S 9)) (pm_vn (updN (S 0) f (pm_aft S f))) (pm_vt (updN (S 4) f 0)) (pm_vc (updN (S 4) f 0)) (pm_vn (updN (S 1) f (pm_dl S f))) (pm_vn (S 2)) (pm_vi (S 3)) (pm_vn (S 5)) (pm_vn (S 6)) (pm_vn (S 7)) (pm_vn (S 8)) (pm_vn (S 11)) (nI (S 10 0)) (nI (S 10 1)) (nI (S 10 2))) hx hb hK hP hD hS 4 0 rfl rfl (by omega) (by decide) (pm_vc_u (S 4) f 0) rfl dX2_settle_47 (fun H locs hP hD hS => ?_)
    refine lv_iload_n hx hb dX2_settle_48 rfl (lv_at hl 0 rfl) ?_
    exact W.iret hx hb hr (fun t ht _ => ⟨⟨_, (), rfl, rfl, (by show va_P D vwCl (pm_shS y q (pm_jdg S f)) t.heap; rw [ht]; exact (by first | (rw [pm_jdg_p (by assumption)]; exact hP) | (rw [pm_jdg_n (by assumption)]; exact hP)))⟩, hS.F ht⟩) hS.2.2 dX2_settle_49
  · skip
    refine lv_aload_n hx hb dX2_settle_11 rfl (lv_at hl 1 rfl) ?_
    refine lv_iload_n hx hb dX2_settle_12 rfl (lv_at hl 2 rfl) ?_
    refine va_callv (va_runV (As := [.int (nI f)]) (rest := []) ⟨hx, hb, hml, hown, hts⟩ (k_X2_noteChoice l D y q S f ho hrd (by omega)) (cwV 1 hts gX2_settle_X2_noteChoice rfl rfl rfl hd_X2_noteChoice ⟨Nat.le_of_ble_eq_true rfl, Nat.le_of_ble_eq_true rfl⟩) ⟨pm_wr_blind, va_recv hK hP (ci := 2) (q0 := 0) rfl rfl, pm_wr_pre hP hK hD⟩ rfl rfl hl.1 rfl (lv_room (Nat.le_of_ble_eq_true rfl)) dX2_settle_13 ⟨Nat.le_of_ble_eq_true rfl, Nat.le_of_ble_eq_true rfl⟩) hS (fun q _ h9 => (pm_ad_all hD) q h9) (pm_ad_all hD) (fun u14 t10 H1 locs ht11 _ h9 hB12 _ hk13 hS => ?_)
    obtain ⟨hP, hD⟩ := pm_all (D := D) (cl := vwCl) (H1 := H1) hD (w' := pm_shS y q (pm_chs S f)) (by rw [← ht11]; exact hB12) rfl
    generalize H1 = H at hP hS ⊢
    refine lv_aload_n hx hb dX2_settle_16 rfl (lv_at hl 1 rfl) ?_
    refine va_get (D := D) (ci := 2) (v := .ref (q 5)) (C := RX2) (T := TX2) (N := 15) hx hb hts hin2 hown hK hP 0 rfl rfl 4 (by decide) (hts (.fieldLink RX2 24 "ProofMarks$Sheet" "dull" "[I") (List.mem_of_getElem? (i := 1) rfl)) (fun _ h9 => h9) rfl dX2_settle_17 ?_
    refine lv_iload_n hx hb dX2_settle_20 rfl (lv_at hl 2 rfl) ?_
    refine lv_aload_n hx hb dX2_settle_21 rfl (lv_at hl 1 rfl) ?_
    refine lv_iload_n hx hb dX2_settle_22 rfl (lv_at hl 2 rfl) ?_
    refine vp_callSi (W.runV (As := [.int (nI f)]) (rest := [.int (nI f), .ref (q 5)]) ⟨hx, hb, hml, hown, hts⟩ (k_X2_dullAfterRound l D y q (pm_chs S f) f ho (by omega)) (cwV 1 hts gX2_settle_X2_dullAfterRound rfl rfl rfl hd_X2_dullAfterRound ⟨Nat.le_of_ble_eq_true rfl, Nat.le_of_ble_eq_true rfl⟩) ⟨pm_ro_blind, va_recv hK hP (ci := 2) (q0 := 0) rfl rfl, pm_ro_pre hP hK⟩ rfl rfl hl.1 rfl (lv_room (Nat.le_of_ble_eq_true rfl)) dX2_settle_23 ⟨Nat.le_of_ble_eq_true rfl, Nat.le_of_ble_eq_true rfl⟩) (fun r15 h16 => ?_)
    obtain rfl : r15 = nI (pm_dl (pm_chs S f) f) := h16
    have := pm_dl_le (pm_chs S f) f
    refine lv_topi (fun x17 e18 => ?_)
    obtain rfl : x17 = nI (pm_dl S f) := e18.trans (rfl)
    refine kx_iast (ws' := pm_sh y q (pm_vn ((pm_chs S f) 9)) (pm_vn ((pm_chs S f) 0)) (pm_vt ((pm_chs S f) 4)) (pm_vc ((pm_chs S f) 4)) (pm_vn (updN ((pm_chs S f) 1) f (pm_dl S f))) (pm_vn ((pm_chs S f) 2)) (pm_vi ((pm_chs S f) 3)) (pm_vn ((pm_chs S f) 5)) (pm_vn ((pm_chs S f) 6)) (pm_vn ((pm_chs S f) 7)) (pm_vn ((pm_chs S f) 8)) (pm_vn ((pm_chs S f) 11)) (nI ((pm_chs S f) 10 0)) (nI ((pm_chs S f) 10 1)) (nI ((pm_chs S f) 10 2))) hx hb hK hP hD hS 5 0 rfl rfl (by omega) (by decide) (pm_vn_u ((pm_chs S f) 1) f (pm_dl S f)) rfl dX2_settle_26 (fun H locs hP hD hS => ?_)
    refine lv_aload_n hx hb dX2_settle_27 rfl (lv_at hl 1 rfl) ?_
    refine va_get (D := D) (ci := 2) (v := .ref (q 2)) (C := RX2) (T := TX2) (N := 15) hx hb hts hin2 hown hK hP 0 rfl rfl 1 (by decide) (hts (.fieldLink RX2 15 "ProofMarks$Sheet" "how" "[I") (List.mem_of_getElem? (i := 2) rfl)) (fun _ h9 => h9) rfl dX2_settle_28 ?_
    refine lv_iload_n hx hb dX2_settle_31 rfl (lv_at hl 2 rfl) ?_
    refine lv_iload_n hx hb dX2_settle_32 rfl (lv_at hl 0 rfl) ?_
    refine kx_iast (ws' := pm_sh y q (pm_vn ((pm_chs S f) 9)) (pm_vn (updN ((pm_chs S f) 0) f (pm_aft S f))) (pm_vt ((pm_chs S f) 4)) (pm_vc ((pm_chs S f) 4)) (pm_vn (updN ((pm_chs S f) 1) f (pm_dl S f))) (pm_vn ((pm_chs S f) 2)) (pm_vi ((pm_chs S f) 3)) (pm_vn ((pm_chs S f) 5)) (pm_vn ((pm_chs S f) 6)) (pm_vn ((pm_chs S f) 7)) (pm_vn ((pm_chs S f) 8)) (pm_vn ((pm_chs S f) 11)) (nI ((pm_chs S f) 10 0)) (nI ((pm_chs S f) 10 1)) (nI ((pm_chs S f) 10 2))) hx hb hK hP hD hS 2 0 rfl rfl (by omega) (by decide) (pm_vn_u ((pm_chs S f) 0) f (pm_aft S f)) rfl dX2_settle_33 (fun H locs hP hD hS => ?_)
    refine lv_aload_n hx hb dX2_settle_34 rfl (lv_at hl 1 rfl) ?_
    refine va_get (D := D) (ci := 2) (v := .ref (q 3)) (C := RX2) (T := TX2) (N := 15) hx hb hts hin2 hown hK hP 0 rfl rfl 2 (by decide) (hts (.fieldLink RX2 18 "ProofMarks$Sheet" "ticks" "[I") (List.mem_of_getElem? (i := 3) rfl)) (fun _ h9 => h9) rfl dX2_settle_35 ?_
    refine lv_iload_n hx hb dX2_settle_38 rfl (lv_at hl 2 rfl) ?_
    refine lv_iconst (v := nI 0) hx hb dX2_settle_39 (by decide) ?_
    refine kx_iast (ws' := pm_sh y q (pm_vn ((pm_chs S f) 9)) (pm_vn (updN ((pm_chs S f) 0) f (pm_aft S f))) (pm_vt (updN ((pm_chs S f) 4) f 0)) (pm_vc ((pm_chs S f) 4)) (pm_vn (updN ((pm_chs S f) 1) f (pm_dl S f))) (pm_vn ((pm_chs S f) 2)) (pm_vi ((pm_chs S f) 3)) (pm_vn ((pm_chs S f) 5)) (pm_vn ((pm_chs S f) 6)) (pm_vn ((pm_chs S f) 7)) (pm_vn ((pm_chs S f) 8)) (pm_vn ((pm_chs S f) 11)) (nI ((pm_chs S f) 10 0)) (nI ((pm_chs S f) 10 1)) (nI ((pm_chs S f) 10 2))) hx hb hK hP hD hS 3 0 rfl rfl (by omega) (by decide) (pm_vt_u ((pm_chs S f) 4) f 0) rfl dX2_settle_40 (fun H locs hP hD hS => ?_)
    refine lv_aload_n hx hb dX2_settle_41 rfl (lv_at hl 1 rfl) ?_
    refine va_get (D := D) (ci := 2) (v := .ref (q 4)) (C := RX2) (T := TX2) (N := 15) hx hb hts hin2 hown hK hP 0 rfl rfl 3 (by decide) (hts (.fieldLink RX2 21 "ProofMarks$Sheet" "crosses" "[I") (List.mem_of_getElem? (i := 4) rfl)) (fun _ h9 => h9) rfl dX2_settle_42 ?_
    refine lv_iload_n hx hb dX2_settle_45 rfl (lv_at hl 2 rfl) ?_
    refine lv_iconst (v := nI 0) hx hb dX2_settle_46 (by decide) ?_
    refine kx_iast (ws' := pm_sh y q (pm_vn ((pm_chs S f) 9)) (pm_vn (updN ((pm_chs S f) 0) f (pm_aft S f))) (pm_vt (updN ((pm_chs S f) 4) f 0)) (pm_vc (updN ((pm_chs S f) 4) f 0)) (pm_vn (updN ((pm_chs S f) 1) f (pm_dl S f))) (pm_vn ((pm_chs S f) 2)) (pm_vi ((pm_chs S f) 3)) (pm_vn ((pm_chs S f) 5)) (pm_vn ((pm_chs S f) 6)) (pm_vn ((pm_chs S f) 7)) (pm_vn ((pm_chs S f) 8)) (pm_vn ((pm_chs S f) 11)) (nI ((pm_chs S f) 10 0)) (nI ((pm_chs S f) 10 1)) (nI ((pm_chs S f) 10 2))) hx hb hK hP hD hS 4 0 rfl rfl (by omega) (by decide) (pm_vc_u ((pm_chs S f) 4) f 0) rfl dX2_settle_47 (fun H locs hP hD hS => ?_)
    refine lv_iload_n hx hb dX2_settle_48 rfl (lv_at hl 0 rfl) ?_
    exact W.iret hx hb hr (fun t ht _ => ⟨⟨_, (), rfl, rfl, (by show va_P D vwCl (pm_shS y q (pm_jdg S f)) t.heap; rw [ht]; exact (by first | (rw [pm_jdg_p (by assumption)]; exact hP) | (rw [pm_jdg_n (by assumption)]; exact hP)))⟩, hS.F ht⟩) hS.2.2 dX2_settle_49

set_option maxHeartbeats 4000000 in
set_option maxRecDepth 100000 in
theorem k_X2_endRound (l : Launch) (D : va_G) (y : Nat → ClassId) (q : Nat → Nat) (S : Nat → Nat → Nat) (hI : pm_Inv S) : Met l yX2_endRound wsX2_endRound ({ frames := 4, cells := 0, slots := 0, locals := 86 } : Room) (pm_wr D (pm_ty y) [.ref (q 0)] (pm_shS y q S)) (pm_Qi D (fun (r : Int32) (_ : Unit) => r = (pm_aRound S).1) (fun (_ : Unit) => pm_shS y q (pm_aRound S).2) (pm_shS y q S)) 0 0 (pm_ad (pm_shS y q S)) := by
  refine Met.ofW (cc := cX2_endRound) (maxL := 3) (ret := (some .int)) (by decide) rfl ?_
  intro p e s m args below meth c s₁ B hml hpre
  obtain ⟨rfl, hP, hK, hD0⟩ := hpre
  have hx := B.exec
  have hb := B.bytes
  have hr := B.returns
  have hts := atoms_spec (ws := wsX2_endRound) B.pre
  have hown : s.vm.findClass RX2 = some m.cls := findClass_of_methodNamed B.named
  have hlocks := B.notSynchronized
  have hin2 : ∀ w ∈ u_ws RX2 TX2 15, w ∈ wsX2_endRound := fun w h => List.mem_cons_of_mem _ (List.mem_append_right _ h)
  have hD := pm_ad_self hD0
  have hS : va_S (pm_ad (pm_shS y q S)) s.heap s.heap [] := va_S.rf
  have hP : va_P D vwCl (pm_shS y q S) s.heap := hP
  have hl := lv_entry ([.ref (q 0)]) (n := 3) (Nat.le_of_ble_eq_true rfl)
  rw [lg_entry_eq]
  generalize (lg_sl ([.ref (q 0)]) ++ List.replicate (3 - (lg_sl ([.ref (q 0)])).length) Slot.unset).toArray = ls at hl ⊢
  have hl : lv_has ls 3 [(0, .ref (q 0))] := hl
  refine lv_aload_n hx hb dX2_endRound_0 rfl (lv_at hl 0 rfl) ?_
  refine va_get (D := D) (ci := 2) (v := .int (nI (S 10 0))) (C := RX2) (T := TX2) (N := 15) hx hb hts hin2 hown hK hP 0 rfl rfl 12 (by decide) (hts (.fieldLink RX2 48 "ProofMarks$Sheet" "rounds" "I") (List.mem_of_getElem? (i := 1) rfl)) (fun _ h9 => h9) rfl dX2_endRound_1 ?_
  have := hI.rnd
  refine lv_bipush (v := nI 99) hx hb dX2_endRound_4 (by decide) ?_
  refine kx_icmp_lt (tgt := 12) hx hb (by omega) (by decide) dX2_endRound_6 (by decide) (fun c1 => ?_) (fun c1 => ?_)
  · skip
    refine lv_iconst (v := nI 0) hx hb dX2_endRound_12 (by decide) ?_
    refine lv_istore_n (lv' := [(1, .int (nI 0)), (0, .ref (q 0))]) hx hb dX2_endRound_13 rfl hl (by decide) rfl (fun ls hl => ?_)
    refine lv_iconst (v := nI 0) hx hb dX2_endRound_14 (by decide) ?_
    refine lv_istore_n (lv' := [(2, .int (nI 0)), (1, .int (nI 0)), (0, .ref (q 0))]) hx hb dX2_endRound_15 rfl hl (by decide) rfl (fun ls hl => ?_)
    have LOOP16 : ∀ (n i : Nat) (ls : Array Slot) (H : Heap) (locs : List Loc), va_P D vwCl (pm_shS y q (pm_rds S i)) H → va_D (pm_ad (pm_shS y q S)) (pm_shS y q (pm_rds S i)) → va_S (pm_ad (pm_shS y q S)) s.heap H locs → i ≤ 30 → 30 - i < n → lv_has ls 3 [(0, .ref (q 0)), (1, .int (nI (pm_rct S i))), (2, .int (nI i))] → W p l e (headSpec wsX2_endRound ({ frames := 4, cells := 0, slots := 0, locals := 86 } : Room)).room s m ([.ref (q 0)] : List Value).toArray below meth c H locs 0 0 (MQ below (pm_Qi D (fun (r : Int32) (_ : Unit) => r = (pm_aRound S).1) (fun (_ : Unit) => pm_shS y q (pm_aRound S).2) (pm_shS y q S)) ([.ref (q 0)] : List Value).toArray s 0 0 (pm_ad (pm_shS y q S))) (F0 m 16 ls []) := by
      intro n
      induction n with
      | zero => intro i _ _ _ _ _ _ hi hn; omega
      | succ n ih2 =>
        intro i ls H locs  hP hD hS hi_i hn_i hl 
        refine lv_iload_n hx hb dX2_endRound_16 rfl (lv_at hl 2 rfl) ?_
        refine lv_bipush (v := nI 30) hx hb dX2_endRound_17 (by decide) ?_
        refine kx_icmp_ge (tgt := 49) hx hb (by omega) (by decide) dX2_endRound_19 (by decide) (fun c3 => ?_) (fun c3 => ?_)
        · skip
          obtain rfl : i = 30 := by omega
          have hP : va_P D vwCl (pm_shS y q (pm_mid2 S 0)) H := by rw [pm_mid2_z S]; exact hP
          have hD : va_D (pm_ad (pm_shS y q S)) (pm_shS y q (pm_mid2 S 0)) := by rw [pm_mid2_z S]; exact hD
          refine lv_iconst (v := nI 0) hx hb dX2_endRound_49 (by decide) ?_
          refine lv_istore_n (lv' := [(2, .int (nI 0)), (0, .ref (q 0)), (1, .int (nI (pm_rct S 30)))]) hx hb dX2_endRound_50 rfl hl (by decide) rfl (fun ls hl => ?_)
          refine lv_iload_n hx hb dX2_endRound_51 rfl (lv_at hl 0 rfl) ?_
          refine lv_iconst (v := nI 3) hx hb dX2_endRound_52 (by decide) ?_
          refine lv_icmp_ge (tgt := 81) hx hb dX2_endRound_53 (by decide) (fun c4 => absurd c4 (by decide)) (fun _ => ?_)
          refine lv_aload_n hx hb dX2_endRound_56 rfl (lv_at hl 1 rfl) ?_
          refine va_get (D := D) (ci := 2) (v := .ref (q 8)) (C := RX2) (T := TX2) (N := 15) hx hb hts hin2 hown hK hP 0 rfl rfl 7 (by decide) (hts (.fieldLink RX2 33 "ProofMarks$Sheet" "points" "[I") (List.mem_of_getElem? (i := 3) rfl)) (fun _ h9 => h9) rfl dX2_endRound_57 ?_
          refine lv_iload_n hx hb dX2_endRound_60 rfl (lv_at hl 0 rfl) ?_
          refine lv_aload_n hx hb dX2_endRound_61 rfl (lv_at hl 1 rfl) ?_
          refine va_get (D := D) (ci := 2) (v := .ref (q 8)) (C := RX2) (T := TX2) (N := 15) hx hb hts hin2 hown hK hP 0 rfl rfl 7 (by decide) (hts (.fieldLink RX2 33 "ProofMarks$Sheet" "points" "[I") (List.mem_of_getElem? (i := 3) rfl)) (fun _ h9 => h9) rfl dX2_endRound_62 ?_
          refine lv_iload_n hx hb dX2_endRound_65 rfl (lv_at hl 0 rfl) ?_
          refine kx_iald (v := nI (((pm_mid2 S 0) 5) 0)) hx hb hK hP 8 0 rfl rfl (by omega) (by decide) rfl dX2_endRound_66 ?_
          refine lv_topi (fun x5 e6 => ?_)
          obtain rfl : x5 = nI (S 5 0) := e6.trans (congrArg nI (pm_pts_o (S 5) 0 0 (Nat.le_refl 0)))
          have := hI.pts 0 (by decide)
          refine lv_iconst (v := nI 2) hx hb dX2_endRound_67 (by decide) ?_
          refine kx_iadd hx hb dX2_endRound_68 ?_
          refine lv_bipush (v := nI 20) hx hb dX2_endRound_69 (by decide) ?_
          refine va_mmin hx hb (by rw [hml]; exact hl.1.symm) hown (hts (.methodLink RX2 92 Lib.Math.min.name) (List.mem_of_getElem? (i := 4) rfl)) (hts (.static Lib.Math.min.name) (List.mem_of_getElem? (i := 5) rfl)) (hts (.initialized "java/lang/Math") (List.mem_of_getElem? (i := 6) rfl)) (hts (.code Lib.Math.min.name Lib.Math.min.code 2 (some .int)) (List.mem_of_getElem? (i := 7) rfl)) (Nat.le_of_ble_eq_true rfl) (Nat.le_of_ble_eq_true rfl) (Nat.le_of_ble_eq_true rfl) (Nat.le_of_ble_eq_true rfl) dX2_endRound_71 ?_
          refine lv_topi (fun x7 e8 => ?_)
          obtain rfl : x7 = nI (if 20 < S 5 0 + 2 then 20 else S 5 0 + 2) := e8.trans (pm_min (by omega) (by decide))
          refine kx_iast (ws' := pm_sh y q (pm_vn ((pm_mid2 S 0) 9)) (pm_vn ((pm_mid2 S 0) 0)) (pm_vt ((pm_mid2 S 0) 4)) (pm_vc ((pm_mid2 S 0) 4)) (pm_vn ((pm_mid2 S 0) 1)) (pm_vn ((pm_mid2 S 0) 2)) (pm_vi ((pm_mid2 S 0) 3)) (pm_vn (updN ((pm_mid2 S 0) 5) 0 (if 20 < S 5 0 + 2 then 20 else S 5 0 + 2))) (pm_vn ((pm_mid2 S 0) 6)) (pm_vn ((pm_mid2 S 0) 7)) (pm_vn ((pm_mid2 S 0) 8)) (pm_vn ((pm_mid2 S 0) 11)) (nI ((pm_mid2 S 0) 10 0)) (nI ((pm_mid2 S 0) 10 1)) (nI ((pm_mid2 S 0) 10 2))) hx hb hK hP hD hS 8 0 rfl rfl (by omega) (by decide) (pm_vn_u ((pm_mid2 S 0) 5) 0 (if 20 < S 5 0 + 2 then 20 else S 5 0 + 2)) rfl dX2_endRound_74 (fun H locs hP hD hS => ?_)
          have hP : va_P D vwCl (pm_shS y q (pm_mid2 S 1)) H := by rw [pm_mid2_s S 0]; exact hP
          have hD : va_D (pm_ad (pm_shS y q S)) (pm_shS y q (pm_mid2 S 1)) := by rw [pm_mid2_s S 0]; exact hD
          refine lv_iinc (v := nI 1) (lv' := [(2, .int (nI 1)), (0, .ref (q 0)), (1, .int (nI (pm_rct S 30)))]) hx hb dX2_endRound_75 hl (k := 0) rfl (by decide) (by decide) rfl (fun ls hl => ?_)
          refine lv_goto (tgt := 51) hx hb dX2_endRound_78 (by decide) ?_
          refine lv_iload_n hx hb dX2_endRound_51 rfl (lv_at hl 0 rfl) ?_
          refine lv_iconst (v := nI 3) hx hb dX2_endRound_52 (by decide) ?_
          refine lv_icmp_ge (tgt := 81) hx hb dX2_endRound_53 (by decide) (fun c9 => absurd c9 (by decide)) (fun _ => ?_)
          refine lv_aload_n hx hb dX2_endRound_56 rfl (lv_at hl 1 rfl) ?_
          refine va_get (D := D) (ci := 2) (v := .ref (q 8)) (C := RX2) (T := TX2) (N := 15) hx hb hts hin2 hown hK hP 0 rfl rfl 7 (by decide) (hts (.fieldLink RX2 33 "ProofMarks$Sheet" "points" "[I") (List.mem_of_getElem? (i := 3) rfl)) (fun _ h9 => h9) rfl dX2_endRound_57 ?_
          refine lv_iload_n hx hb dX2_endRound_60 rfl (lv_at hl 0 rfl) ?_
          refine lv_aload_n hx hb dX2_endRound_61 rfl (lv_at hl 1 rfl) ?_
          refine va_get (D := D) (ci := 2) (v := .ref (q 8)) (C := RX2) (T := TX2) (N := 15) hx hb hts hin2 hown hK hP 0 rfl rfl 7 (by decide) (hts (.fieldLink RX2 33 "ProofMarks$Sheet" "points" "[I") (List.mem_of_getElem? (i := 3) rfl)) (fun _ h9 => h9) rfl dX2_endRound_62 ?_
          refine lv_iload_n hx hb dX2_endRound_65 rfl (lv_at hl 0 rfl) ?_
          refine kx_iald (v := nI (((pm_mid2 S 1) 5) 1)) hx hb hK hP 8 0 rfl rfl (by omega) (by decide) rfl dX2_endRound_66 ?_
          refine lv_topi (fun x10 e11 => ?_)
          obtain rfl : x10 = nI (S 5 1) := e11.trans (congrArg nI (pm_pts_o (S 5) 1 1 (Nat.le_refl 1)))
          have := hI.pts 1 (by decide)
          refine lv_iconst (v := nI 2) hx hb dX2_endRound_67 (by decide) ?_
          refine kx_iadd hx hb dX2_endRound_68 ?_
          refine lv_bipush (v := nI 20) hx hb dX2_endRound_69 (by decide) ?_
          refine va_mmin hx hb (by rw [hml]; exact hl.1.symm) hown (hts (.methodLink RX2 92 Lib.Math.min.name) (List.mem_of_getElem? (i := 4) rfl)) (hts (.static Lib.Math.min.name) (List.mem_of_getElem? (i := 5) rfl)) (hts (.initialized "java/lang/Math") (List.mem_of_getElem? (i := 6) rfl)) (hts (.code Lib.Math.min.name Lib.Math.min.code 2 (some .int)) (List.mem_of_getElem? (i := 7) rfl)) (Nat.le_of_ble_eq_true rfl) (Nat.le_of_ble_eq_true rfl) (Nat.le_of_ble_eq_true rfl) (Nat.le_of_ble_eq_true rfl) dX2_endRound_71 ?_
          refine lv_topi (fun x12 e13 => ?_)
          obtain rfl : x12 = nI (if 20 < S 5 1 + 2 then 20 else S 5 1 + 2) := e13.trans (pm_min (by omega) (by decide))
          refine kx_iast (ws' := pm_sh y q (pm_vn ((pm_mid2 S 1) 9)) (pm_vn ((pm_mid2 S 1) 0)) (pm_vt ((pm_mid2 S 1) 4)) (pm_vc ((pm_mid2 S 1) 4)) (pm_vn ((pm_mid2 S 1) 1)) (pm_vn ((pm_mid2 S 1) 2)) (pm_vi ((pm_mid2 S 1) 3)) (pm_vn (updN ((pm_mid2 S 1) 5) 1 (if 20 < S 5 1 + 2 then 20 else S 5 1 + 2))) (pm_vn ((pm_mid2 S 1) 6)) (pm_vn ((pm_mid2 S 1) 7)) (pm_vn ((pm_mid2 S 1) 8)) (pm_vn ((pm_mid2 S 1) 11)) (nI ((pm_mid2 S 1) 10 0)) (nI ((pm_mid2 S 1) 10 1)) (nI ((pm_mid2 S 1) 10 2))) hx hb hK hP hD hS 8 0 rfl rfl (by omega) (by decide) (pm_vn_u ((pm_mid2 S 1) 5) 1 (if 20 < S 5 1 + 2 then 20 else S 5 1 + 2)) rfl dX2_endRound_74 (fun H locs hP hD hS => ?_)
          have hP : va_P D vwCl (pm_shS y q (pm_mid2 S 2)) H := by rw [pm_mid2_s S 1]; exact hP
          have hD : va_D (pm_ad (pm_shS y q S)) (pm_shS y q (pm_mid2 S 2)) := by rw [pm_mid2_s S 1]; exact hD
          refine lv_iinc (v := nI 2) (lv' := [(2, .int (nI 2)), (0, .ref (q 0)), (1, .int (nI (pm_rct S 30)))]) hx hb dX2_endRound_75 hl (k := 0) rfl (by decide) (by decide) rfl (fun ls hl => ?_)
          refine lv_goto (tgt := 51) hx hb dX2_endRound_78 (by decide) ?_
          refine lv_iload_n hx hb dX2_endRound_51 rfl (lv_at hl 0 rfl) ?_
          refine lv_iconst (v := nI 3) hx hb dX2_endRound_52 (by decide) ?_
          refine lv_icmp_ge (tgt := 81) hx hb dX2_endRound_53 (by decide) (fun c14 => absurd c14 (by decide)) (fun _ => ?_)
          refine lv_aload_n hx hb dX2_endRound_56 rfl (lv_at hl 1 rfl) ?_
          refine va_get (D := D) (ci := 2) (v := .ref (q 8)) (C := RX2) (T := TX2) (N := 15) hx hb hts hin2 hown hK hP 0 rfl rfl 7 (by decide) (hts (.fieldLink RX2 33 "ProofMarks$Sheet" "points" "[I") (List.mem_of_getElem? (i := 3) rfl)) (fun _ h9 => h9) rfl dX2_endRound_57 ?_
          refine lv_iload_n hx hb dX2_endRound_60 rfl (lv_at hl 0 rfl) ?_
          refine lv_aload_n hx hb dX2_endRound_61 rfl (lv_at hl 1 rfl) ?_
          refine va_get (D := D) (ci := 2) (v := .ref (q 8)) (C := RX2) (T := TX2) (N := 15) hx hb hts hin2 hown hK hP 0 rfl rfl 7 (by decide) (hts (.fieldLink RX2 33 "ProofMarks$Sheet" "points" "[I") (List.mem_of_getElem? (i := 3) rfl)) (fun _ h9 => h9) rfl dX2_endRound_62 ?_
          refine lv_iload_n hx hb dX2_endRound_65 rfl (lv_at hl 0 rfl) ?_
          refine kx_iald (v := nI (((pm_mid2 S 2) 5) 2)) hx hb hK hP 8 0 rfl rfl (by omega) (by decide) rfl dX2_endRound_66 ?_
          refine lv_topi (fun x15 e16 => ?_)
          obtain rfl : x15 = nI (S 5 2) := e16.trans (congrArg nI (pm_pts_o (S 5) 2 2 (Nat.le_refl 2)))
          have := hI.pts 2 (by decide)
          refine lv_iconst (v := nI 2) hx hb dX2_endRound_67 (by decide) ?_
          refine kx_iadd hx hb dX2_endRound_68 ?_
          refine lv_bipush (v := nI 20) hx hb dX2_endRound_69 (by decide) ?_
          refine va_mmin hx hb (by rw [hml]; exact hl.1.symm) hown (hts (.methodLink RX2 92 Lib.Math.min.name) (List.mem_of_getElem? (i := 4) rfl)) (hts (.static Lib.Math.min.name) (List.mem_of_getElem? (i := 5) rfl)) (hts (.initialized "java/lang/Math") (List.mem_of_getElem? (i := 6) rfl)) (hts (.code Lib.Math.min.name Lib.Math.min.code 2 (some .int)) (List.mem_of_getElem? (i := 7) rfl)) (Nat.le_of_ble_eq_true rfl) (Nat.le_of_ble_eq_true rfl) (Nat.le_of_ble_eq_true rfl) (Nat.le_of_ble_eq_true rfl) dX2_endRound_71 ?_
          refine lv_topi (fun x17 e18 => ?_)
          obtain rfl : x17 = nI (if 20 < S 5 2 + 2 then 20 else S 5 2 + 2) := e18.trans (pm_min (by omega) (by decide))
          refine kx_iast (ws' := pm_sh y q (pm_vn ((pm_mid2 S 2) 9)) (pm_vn ((pm_mid2 S 2) 0)) (pm_vt ((pm_mid2 S 2) 4)) (pm_vc ((pm_mid2 S 2) 4)) (pm_vn ((pm_mid2 S 2) 1)) (pm_vn ((pm_mid2 S 2) 2)) (pm_vi ((pm_mid2 S 2) 3)) (pm_vn (updN ((pm_mid2 S 2) 5) 2 (if 20 < S 5 2 + 2 then 20 else S 5 2 + 2))) (pm_vn ((pm_mid2 S 2) 6)) (pm_vn ((pm_mid2 S 2) 7)) (pm_vn ((pm_mid2 S 2) 8)) (pm_vn ((pm_mid2 S 2) 11)) (nI ((pm_mid2 S 2) 10 0)) (nI ((pm_mid2 S 2) 10 1)) (nI ((pm_mid2 S 2) 10 2))) hx hb hK hP hD hS 8 0 rfl rfl (by omega) (by decide) (pm_vn_u ((pm_mid2 S 2) 5) 2 (if 20 < S 5 2 + 2 then 20 else S 5 2 + 2)) rfl dX2_endRound_74 (fun H locs hP hD hS => ?_)
          have hP : va_P D vwCl (pm_shS y q (pm_mid2 S 3)) H := by rw [pm_mid2_s S 2]; exact hP
          have hD : va_D (pm_ad (pm_shS y q S)) (pm_shS y q (pm_mid2 S 3)) := by rw [pm_mid2_s S 2]; exact hD
          refine lv_iinc (v := nI 3) (lv' := [(2, .int (nI 3)), (0, .ref (q 0)), (1, .int (nI (pm_rct S 30)))]) hx hb dX2_endRound_75 hl (k := 0) rfl (by decide) (by decide) rfl (fun ls hl => ?_)
          refine lv_goto (tgt := 51) hx hb dX2_endRound_78 (by decide) ?_
          refine lv_iload_n hx hb dX2_endRound_51 rfl (lv_at hl 0 rfl) ?_
          refine lv_iconst (v := nI 3) hx hb dX2_endRound_52 (by decide) ?_
          refine lv_icmp_ge (tgt := 81) hx hb dX2_endRound_53 (by decide) (fun _ => ?_) (fun c19 => (c19 (by decide)).elim)
          refine lv_aload_n hx hb dX2_endRound_81 rfl (lv_at hl 1 rfl) ?_
          refine lv_dup hx hb dX2_endRound_82 rfl ?_
          refine va_get (D := D) (ci := 2) (v := .int (nI ((pm_mid2 S 3) 10 0))) (C := RX2) (T := TX2) (N := 15) hx hb hts hin2 hown hK hP 0 rfl rfl 12 (by decide) (hts (.fieldLink RX2 48 "ProofMarks$Sheet" "rounds" "I") (List.mem_of_getElem? (i := 1) rfl)) (fun _ h9 => h9) rfl dX2_endRound_83 ?_
          refine lv_topi (fun x20 e21 => ?_)
          obtain rfl : x20 = nI (S 10 0) := e21.trans (congrArg nI (pm_rds_9 S (by decide) 0 30))
          refine lv_iconst (v := nI 1) hx hb dX2_endRound_86 (by decide) ?_
          refine kx_iadd hx hb dX2_endRound_87 ?_
          refine kx_put (D := D) (ci := 2) (v := .int (nI ((S 10 0) + 1))) (ty := .int) (ws' := pm_sh y q (pm_vn ((pm_mid2 S 3) 9)) (pm_vn ((pm_mid2 S 3) 0)) (pm_vt ((pm_mid2 S 3) 4)) (pm_vc ((pm_mid2 S 3) 4)) (pm_vn ((pm_mid2 S 3) 1)) (pm_vn ((pm_mid2 S 3) 2)) (pm_vi ((pm_mid2 S 3) 3)) (pm_vn ((pm_mid2 S 3) 5)) (pm_vn ((pm_mid2 S 3) 6)) (pm_vn ((pm_mid2 S 3) 7)) (pm_vn ((pm_mid2 S 3) 8)) (pm_vn ((pm_mid2 S 3) 11)) (nI ((S 10 0) + 1)) (nI ((pm_mid2 S 3) 10 1)) (nI ((pm_mid2 S 3) 10 2))) (C := RX2) (T := TX2) (N := 15) hx hb hts hin2 tyX2 tyX2_ok nmX2 hown hK hP hD hS 0 rfl rfl 12 (by decide) (hts (.fieldLink RX2 48 "ProofMarks$Sheet" "rounds" "I") (List.mem_of_getElem? (i := 1) rfl)) (fun _ h9 => h9) rfl (by decide +kernel) rfl rfl (Nat.le_of_ble_eq_true rfl) rfl dX2_endRound_88 (fun H locs hP hD hS => ?_)
          refine lv_iload_n hx hb dX2_endRound_91 rfl (lv_at hl 2 rfl) ?_
          have E : pm_aRound S = (nI (pm_rct S 30), pm_st (pm_mid2 S 3) 10 0 (S 10 0 + 1)) := by rw [pm_aRound, if_neg (by omega)]; rfl
          exact W.iret hx hb hr (fun t ht _ => ⟨⟨_, (), rfl, (by rw [E]), (by show va_P D vwCl (pm_shS y q (pm_aRound S).2) t.heap; rw [ht]; exact (by rw [E]; exact hP))⟩, hS.F ht⟩) hS.2.2 dX2_endRound_92
        · skip
          refine lv_aload_n hx hb dX2_endRound_22 rfl (lv_at hl 0 rfl) ?_
          refine va_get (D := D) (ci := 2) (v := .ref (q 2)) (C := RX2) (T := TX2) (N := 15) hx hb hts hin2 hown hK hP 0 rfl rfl 1 (by decide) (hts (.fieldLink RX2 15 "ProofMarks$Sheet" "how" "[I") (List.mem_of_getElem? (i := 2) rfl)) (fun _ h9 => h9) rfl dX2_endRound_23 ?_
          refine lv_iload_n hx hb dX2_endRound_26 rfl (lv_at hl 2 rfl) ?_
          refine kx_iald (v := nI (((pm_rds S i) 0) i)) hx hb hK hP 2 0 rfl rfl (by omega) (by decide) rfl dX2_endRound_27 ?_
          refine lv_topi (fun x22 e23 => ?_)
          obtain rfl : x22 = nI (S 0 i) := e23.trans (congrArg nI (pm_rds_o S (by decide) i i (Nat.le_refl i)))
          have := hI.how i (by omega)
          refine kx_if_ne (tgt := 43) hx hb (by omega) dX2_endRound_28 (by decide) (fun c24 => ?_) (fun c24 => ?_)
          · skip
            have hP : va_P D vwCl (pm_shS y q (pm_rds S (i + 1))) H := by rw [show pm_rds S (i + 1) = _ from by first | exact pm_rds_p (by assumption) | exact pm_rds_n (by assumption)]; exact hP
            have hD : va_D (pm_ad (pm_shS y q S)) (pm_shS y q (pm_rds S (i + 1))) := by rw [show pm_rds S (i + 1) = _ from by first | exact pm_rds_p (by assumption) | exact pm_rds_n (by assumption)]; exact hD
            refine kx_iinc (a := i) (lv' := [(2, .int (nI (i + 1))), (0, .ref (q 0)), (1, .int (nI (pm_rct S i)))]) hx hb dX2_endRound_43 hl (k := 2) rfl (by decide) rfl (fun ls hl => ?_)
            refine lv_goto (tgt := 16) hx hb dX2_endRound_46 (by decide) ?_
            have q25 : (nI (pm_rct S (i + 1)) : Int32) = nI (pm_rct S i) := (congrArg nI (by first | exact pm_rct_p (by assumption) (by assumption) | exact pm_rct_n (fun z => absurd z.1 (by assumption)) | exact pm_rct_n (fun z => absurd z.2 (by assumption))))
            exact ih2 (i + 1) ls H locs hP hD hS (by omega) (by omega) (by rw [q25]; exact lv_sub hl [1, 2, 0] rfl) 
          · skip
            refine lv_aload_n hx hb dX2_endRound_31 rfl (lv_at hl 0 rfl) ?_
            refine lv_iload_n hx hb dX2_endRound_32 rfl (lv_at hl 2 rfl) ?_
            refine va_calli (va_runV (As := [.int (nI i)]) (rest := []) ⟨hx, hb, hml, hown, hts⟩ (k_X2_settle l D y q (pm_rds S i) i (by rw [pm_rds_o S (by decide) i i (Nat.le_refl i)]; exact hI.okm i (by omega)) (by rw [pm_rds_9 S (by decide)]; exact hI.set9 0 (by decide)) (by rw [pm_rds_9 S (by decide)]; exact hI.set9 3 (by decide)) (by rw [pm_rds_o S (by decide) i i (Nat.le_refl i)]; exact Nat.le_trans (hI.dull i (by omega)) hI.rnd) (by rw [pm_rds_9 S (by decide)]; exact hI.rnd) (by omega)) (cwV 1 hts gX2_endRound_X2_settle rfl rfl rfl hd_X2_settle ⟨Nat.le_of_ble_eq_true rfl, Nat.le_of_ble_eq_true rfl⟩) ⟨pm_wr_blind, va_recv hK hP (ci := 2) (q0 := 0) rfl rfl, pm_wr_pre hP hK hD⟩ rfl rfl hl.1 rfl (lv_room (Nat.le_of_ble_eq_true rfl)) dX2_endRound_33 ⟨Nat.le_of_ble_eq_true rfl, Nat.le_of_ble_eq_true rfl⟩) hS (fun q _ h9 => (pm_ad_all hD) q h9) (pm_ad_all hD) (fun r26 u32 t28 H1 locs ht29 _ h27 hB30 _ hk31 hS => ?_)
            obtain ⟨hP, hD⟩ := pm_all (D := D) (cl := vwCl) (H1 := H1) hD (w' := pm_shS y q (pm_jdg (pm_rds S i) i)) (by rw [← ht29]; exact hB30) rfl
            generalize H1 = H at hP hS ⊢
            obtain rfl : r26 = nI (pm_aft (pm_rds S i) i) := h27
            refine lv_topi (fun x33 e34 => ?_)
            obtain rfl : x33 = nI (pm_aft S i) := e34.trans (congrArg nI (pm_aft_r S i))
            have := pm_aft3 S i
            refine lv_iconst (v := nI 1) hx hb dX2_endRound_36 (by decide) ?_
            refine kx_icmp_ne (tgt := 43) hx hb (by omega) (by decide) dX2_endRound_37 (by decide) (fun c35 => ?_) (fun c35 => ?_)
            · skip
              have hP : va_P D vwCl (pm_shS y q (pm_rds S (i + 1))) H := by rw [show pm_rds S (i + 1) = _ from by first | exact pm_rds_p (by assumption) | exact pm_rds_n (by assumption)]; exact hP
              have hD : va_D (pm_ad (pm_shS y q S)) (pm_shS y q (pm_rds S (i + 1))) := by rw [show pm_rds S (i + 1) = _ from by first | exact pm_rds_p (by assumption) | exact pm_rds_n (by assumption)]; exact hD
              refine kx_iinc (a := i) (lv' := [(2, .int (nI (i + 1))), (0, .ref (q 0)), (1, .int (nI (pm_rct S i)))]) hx hb dX2_endRound_43 hl (k := 2) rfl (by decide) rfl (fun ls hl => ?_)
              refine lv_goto (tgt := 16) hx hb dX2_endRound_46 (by decide) ?_
              have q36 : (nI (pm_rct S (i + 1)) : Int32) = nI (pm_rct S i) := (congrArg nI (by first | exact pm_rct_p (by assumption) (by assumption) | exact pm_rct_n (fun z => absurd z.1 (by assumption)) | exact pm_rct_n (fun z => absurd z.2 (by assumption))))
              exact ih2 (i + 1) ls H locs hP hD hS (by omega) (by omega) (by rw [q36]; exact lv_sub hl [1, 2, 0] rfl) 
            · skip
              refine kx_iinc (a := (pm_rct S i)) (lv' := [(1, .int (nI (pm_rct S i + 1))), (0, .ref (q 0)), (2, .int (nI i))]) hx hb dX2_endRound_40 hl (k := 1) rfl (by decide) rfl (fun ls hl => ?_)
              have hP : va_P D vwCl (pm_shS y q (pm_rds S (i + 1))) H := by rw [show pm_rds S (i + 1) = _ from by first | exact pm_rds_p (by assumption) | exact pm_rds_n (by assumption)]; exact hP
              have hD : va_D (pm_ad (pm_shS y q S)) (pm_shS y q (pm_rds S (i + 1))) := by rw [show pm_rds S (i + 1) = _ from by first | exact pm_rds_p (by assumption) | exact pm_rds_n (by assumption)]; exact hD
              refine kx_iinc (a := i) (lv' := [(2, .int (nI (i + 1))), (1, .int (nI (pm_rct S i + 1))), (0, .ref (q 0))]) hx hb dX2_endRound_43 hl (k := 2) rfl (by decide) rfl (fun ls hl => ?_)
              refine lv_goto (tgt := 16) hx hb dX2_endRound_46 (by decide) ?_
              have q37 : (nI (pm_rct S (i + 1)) : Int32) = nI (pm_rct S i + 1) := (congrArg nI (by first | exact pm_rct_p (by assumption) (by assumption) | exact pm_rct_n (fun z => absurd z.1 (by assumption)) | exact pm_rct_n (fun z => absurd z.2 (by assumption))))
              exact ih2 (i + 1) ls H locs hP hD hS (by omega) (by omega) (by rw [q37]; exact lv_sub hl [2, 1, 0] rfl) 
    exact LOOP16 (30 + 1) 0 ls _ _ hP hD hS (by omega) (by omega) (lv_sub hl [2, 1, 0] rfl) 
  · skip
    refine lv_bipush (v := (-5)) hx hb dX2_endRound_9 (by decide) ?_
    have E : pm_aRound S = (-5, S) := by rw [pm_aRound, if_pos (by omega)]
    exact W.iret hx hb hr (fun t ht _ => ⟨⟨_, (), rfl, (by rw [E]), (by show va_P D vwCl (pm_shS y q (pm_aRound S).2) t.heap; rw [ht]; exact (by rw [E]; exact hP))⟩, hS.F ht⟩) hS.2.2 dX2_endRound_11

set_option maxHeartbeats 4000000 in
set_option maxRecDepth 100000 in
theorem k_X2_putMark (l : Launch) (D : va_G) (y : Nat → ClassId) (q : Nat → Nat) (S : Nat → Nat → Nat) (xe xf xm : Int32) (hI : pm_Inv S) : Met l yX2_putMark wsX2_putMark ({ frames := 3, cells := 0, slots := 0, locals := 68 } : Room) (pm_wr D (pm_ty y) [.ref (q 0), .int xe, .int xf, .int xm] (pm_shS y q S)) (pm_Qi D (fun (r : Int32) (_ : Unit) => r = (pm_aMark S xe xf xm).1) (fun (_ : Unit) => pm_shS y q (pm_aMark S xe xf xm).2) (pm_shS y q S)) 0 0 (pm_ad (pm_shS y q S)) := by
  refine Met.ofW (cc := cX2_putMark) (maxL := 5) (ret := (some .int)) (by decide) rfl ?_
  intro p e s m args below meth c s₁ B hml hpre
  obtain ⟨rfl, hP, hK, hD0⟩ := hpre
  have hx := B.exec
  have hb := B.bytes
  have hr := B.returns
  have hts := atoms_spec (ws := wsX2_putMark) B.pre
  have hown : s.vm.findClass RX2 = some m.cls := findClass_of_methodNamed B.named
  have hlocks := B.notSynchronized
  have hin2 : ∀ w ∈ u_ws RX2 TX2 15, w ∈ wsX2_putMark := fun w h => List.mem_cons_of_mem _ (List.mem_append_right _ h)
  have hD := pm_ad_self hD0
  have hS : va_S (pm_ad (pm_shS y q S)) s.heap s.heap [] := va_S.rf
  have hP : va_P D vwCl (pm_shS y q S) s.heap := hP
  have hl := lv_entry ([.ref (q 0), .int xe, .int xf, .int xm]) (n := 5) (Nat.le_of_ble_eq_true rfl)
  rw [lg_entry_eq]
  generalize (lg_sl ([.ref (q 0), .int xe, .int xf, .int xm]) ++ List.replicate (5 - (lg_sl ([.ref (q 0), .int xe, .int xf, .int xm])).length) Slot.unset).toArray = ls at hl ⊢
  have hl : lv_has ls 5 [(0, .ref (q 0)), (1, .int xe), (2, .int xf), (3, .int xm)] := hl
  refine lv_iload_n hx hb dX2_putMark_0 rfl (lv_at hl 1 rfl) ?_
  refine vp_callSi (W.runS (As := [.int xe]) (rest := []) ⟨hx, hb, hml, hown, hts⟩ (k_X2_isEditor l xe) (va_cwS 1 hts gX2_putMark_X2_isEditor rfl rfl rfl hd_X2_isEditor ⟨Nat.le_of_ble_eq_true rfl, Nat.le_of_ble_eq_true rfl⟩) ⟨pm_no_blind, pm_no_pre⟩ rfl rfl hl.1 rfl (lv_room (Nat.le_of_ble_eq_true rfl)) dX2_putMark_1 ⟨Nat.le_of_ble_eq_true rfl, Nat.le_of_ble_eq_true rfl⟩) (fun r1 h2 => ?_)
  rcases h2 with ⟨j3, hj3, ej3, rfl⟩ | ⟨hnj3, rfl⟩
  · subst ej3
    refine lv_if_eq (tgt := 14) hx hb dX2_putMark_4 (by decide) (fun c4 => absurd c4 (by decide)) (fun _ => ?_)
    refine lv_iload_n hx hb dX2_putMark_7 rfl (lv_at hl 2 rfl) ?_
    refine vp_callSi (W.runS (As := [.int xf]) (rest := []) ⟨hx, hb, hml, hown, hts⟩ (k_X2_isFrame l xf) (va_cwS 1 hts gX2_putMark_X2_isFrame rfl rfl rfl hd_X2_isFrame ⟨Nat.le_of_ble_eq_true rfl, Nat.le_of_ble_eq_true rfl⟩) ⟨pm_no_blind, pm_no_pre⟩ rfl rfl hl.1 rfl (lv_room (Nat.le_of_ble_eq_true rfl)) dX2_putMark_8 ⟨Nat.le_of_ble_eq_true rfl, Nat.le_of_ble_eq_true rfl⟩) (fun r5 h6 => ?_)
    rcases h6 with ⟨j7, hj7, ej7, rfl⟩ | ⟨hnj7, rfl⟩
    · subst ej7
      refine lv_if_ne (tgt := 16) hx hb dX2_putMark_11 (by decide) (fun _ => ?_) (fun c8 => absurd c8 (by decide))
      rcases pm_cases xm (n := 3) (by decide) with hnj9 | ⟨j9, hj9, rfl⟩
      · skip
        refine lv_iload_n hx hb dX2_putMark_16 rfl (lv_at hl 3 rfl) ?_
        refine lv_if_lt (tgt := 25) hx hb dX2_putMark_17 (by decide) (fun c10 => ?_) (fun c10 => ?_)
        · skip
          refine lv_bipush (v := (-2)) hx hb dX2_putMark_25 (by decide) ?_
          have E : pm_aMark S (nI j3) (nI j7) xm = ((-2), S) := by simp only [pm_aMark, pm_ix_in hj3 (show (3 : Nat) < 2 ^ 31 by decide), pm_ix_in hj7 (show (30 : Nat) < 2 ^ 31 by decide), pm_ix_out hnj9] <;> ((repeat' split) <;> first | rfl | (exfalso; omega))
          exact W.iret hx hb hr (fun t ht _ => ⟨⟨_, (), rfl, (by rw [E]), (by show va_P D vwCl (pm_shS y q (pm_aMark S (nI j3) (nI j7) xm).2) t.heap; rw [ht]; exact (by rw [E]; exact hP))⟩, hS.F ht⟩) hS.2.2 dX2_putMark_27
        · skip
          refine lv_iload_n hx hb dX2_putMark_20 rfl (lv_at hl 3 rfl) ?_
          refine lv_iconst (v := nI 2) hx hb dX2_putMark_21 (by decide) ?_
          refine lv_icmp_le (tgt := 28) hx hb dX2_putMark_22 (by decide) (fun c11 => by exfalso; exact pm_lead (n := 2) hnj9 (by decide) (by assumption) (by assumption)) (fun c11 => ?_)
          refine lv_bipush (v := (-2)) hx hb dX2_putMark_25 (by decide) ?_
          have E : pm_aMark S (nI j3) (nI j7) xm = ((-2), S) := by simp only [pm_aMark, pm_ix_in hj3 (show (3 : Nat) < 2 ^ 31 by decide), pm_ix_in hj7 (show (30 : Nat) < 2 ^ 31 by decide), pm_ix_out hnj9] <;> ((repeat' split) <;> first | rfl | (exfalso; omega))
          exact W.iret hx hb hr (fun t ht _ => ⟨⟨_, (), rfl, (by rw [E]), (by show va_P D vwCl (pm_shS y q (pm_aMark S (nI j3) (nI j7) xm).2) t.heap; rw [ht]; exact (by rw [E]; exact hP))⟩, hS.F ht⟩) hS.2.2 dX2_putMark_27
      · skip
        refine lv_iload_n hx hb dX2_putMark_16 rfl (lv_at hl 3 rfl) ?_
        refine kx_if_lt (tgt := 25) hx hb (by omega) dX2_putMark_17 (by decide) ?_
        refine lv_iload_n hx hb dX2_putMark_20 rfl (lv_at hl 3 rfl) ?_
        refine lv_iconst (v := nI 2) hx hb dX2_putMark_21 (by decide) ?_
        refine kx_icmp_le (tgt := 28) hx hb (by omega) (by decide) dX2_putMark_22 (by decide) (fun c12 => ?_) (fun c12 => ?_)
        · skip
          refine lv_aload_n hx hb dX2_putMark_28 rfl (lv_at hl 0 rfl) ?_
          refine va_get (D := D) (ci := 2) (v := .ref (q 2)) (C := RX2) (T := TX2) (N := 15) hx hb hts hin2 hown hK hP 0 rfl rfl 1 (by decide) (hts (.fieldLink RX2 15 "ProofMarks$Sheet" "how" "[I") (List.mem_of_getElem? (i := 1) rfl)) (fun _ h9 => h9) rfl dX2_putMark_29 ?_
          refine lv_iload_n hx hb dX2_putMark_32 rfl (lv_at hl 2 rfl) ?_
          refine kx_iald (v := nI ((S 0) j7)) hx hb hK hP 2 0 rfl rfl (by omega) (by decide) rfl dX2_putMark_33 ?_
          have := hI.how j7 (by omega)
          refine kx_if_eq (tgt := 40) hx hb (by omega) dX2_putMark_34 (by decide) (fun c13 => ?_) (fun c13 => ?_)
          · skip
            refine lv_aload_n hx hb dX2_putMark_40 rfl (lv_at hl 0 rfl) ?_
            refine lv_iload_n hx hb dX2_putMark_41 rfl (lv_at hl 1 rfl) ?_
            refine lv_iload_n hx hb dX2_putMark_42 rfl (lv_at hl 2 rfl) ?_
            refine vp_callSi (W.runV (As := [.int (nI j3), .int (nI j7)]) (rest := []) ⟨hx, hb, hml, hown, hts⟩ (k_X2_markOf l D y q S j3 j7 (hI.okm j7 (by omega)) (by omega) (by omega)) (cwV 2 hts gX2_putMark_X2_markOf rfl rfl rfl hd_X2_markOf ⟨Nat.le_of_ble_eq_true rfl, Nat.le_of_ble_eq_true rfl⟩) ⟨pm_ro_blind, va_recv hK hP (ci := 2) (q0 := 0) rfl rfl, pm_ro_pre hP hK⟩ rfl rfl hl.1 rfl (lv_room (Nat.le_of_ble_eq_true rfl)) dX2_putMark_43 ⟨Nat.le_of_ble_eq_true rfl, Nat.le_of_ble_eq_true rfl⟩) (fun r14 h15 => ?_)
            obtain rfl : r14 = nI (pm_mk (S 4 j7) j3) := h15
            have := pm_lt4 (S 4 j7) j3
            refine lv_istore (lv' := [(4, .int (nI (pm_mk (S 4 j7) j3))), (0, .ref (q 0)), (1, .int (nI j3)), (2, .int (nI j7)), (3, .int (nI j9))]) hx hb dX2_putMark_46 hl (by decide) rfl (fun ls hl => ?_)
            refine lv_iload_n hx hb dX2_putMark_48 rfl (lv_at hl 4 rfl) ?_
            refine lv_iconst (v := nI 2) hx hb dX2_putMark_49 (by decide) ?_
            refine kx_icmp_ne (tgt := 70) hx hb (by omega) (by decide) dX2_putMark_50 (by decide) (fun c16 => ?_) (fun c16 => ?_)
            · skip
              refine lv_aload_n hx hb dX2_putMark_70 rfl (lv_at hl 1 rfl) ?_
              refine va_get (D := D) (ci := 2) (v := .ref (q 3)) (C := RX2) (T := TX2) (N := 15) hx hb hts hin2 hown hK hP 0 rfl rfl 2 (by decide) (hts (.fieldLink RX2 18 "ProofMarks$Sheet" "ticks" "[I") (List.mem_of_getElem? (i := 2) rfl)) (fun _ h9 => h9) rfl dX2_putMark_71 ?_
              refine lv_iload_n hx hb dX2_putMark_74 rfl (lv_at hl 3 rfl) ?_
              refine lv_aload_n hx hb dX2_putMark_75 rfl (lv_at hl 1 rfl) ?_
              refine va_get (D := D) (ci := 2) (v := .ref (q 3)) (C := RX2) (T := TX2) (N := 15) hx hb hts hin2 hown hK hP 0 rfl rfl 2 (by decide) (hts (.fieldLink RX2 18 "ProofMarks$Sheet" "ticks" "[I") (List.mem_of_getElem? (i := 2) rfl)) (fun _ h9 => h9) rfl dX2_putMark_76 ?_
              refine lv_iload_n hx hb dX2_putMark_79 rfl (lv_at hl 3 rfl) ?_
              refine kx_iald (v := nI (pm_tk ((S 4) j7))) hx hb hK hP 3 0 rfl rfl (by omega) (by decide) rfl dX2_putMark_80 ?_
              have := pm_tk8 ((S 4) j7)
              refine lv_iload_n hx hb dX2_putMark_81 rfl (lv_at hl 2 rfl) ?_
              refine lv_iload_n hx hb dX2_putMark_82 rfl (lv_at hl 4 rfl) ?_
              refine lv_iconst (v := nI 1) hx hb dX2_putMark_83 (by decide) ?_
              refine kx_icmp_ne (tgt := 91) hx hb (by omega) (by decide) dX2_putMark_84 (by decide) (fun c17 => ?_) (fun c17 => ?_)
              · skip
                refine lv_iconst (v := nI 0) hx hb dX2_putMark_91 (by decide) ?_
                refine vp_callSi (W.runS (As := [.int (nI (pm_tk ((S 4) j7))), .int (nI j3), .int (nI 0)]) (rest := [.int (nI j7), .ref (q 3)]) ⟨hx, hb, hml, hown, hts⟩ (k_X2_withEditor l (nI (pm_tk ((S 4) j7))) (nI j3) (nI 0)) (va_cwS 3 hts gX2_putMark_X2_withEditor rfl rfl rfl hd_X2_withEditor ⟨Nat.le_of_ble_eq_true rfl, Nat.le_of_ble_eq_true rfl⟩) ⟨pm_no_blind, pm_no_pre⟩ rfl rfl hl.1 rfl (lv_room (Nat.le_of_ble_eq_true rfl)) dX2_putMark_92 ⟨Nat.le_of_ble_eq_true rfl, Nat.le_of_ble_eq_true rfl⟩) (fun r18 h19 => ?_)
                obtain rfl : r18 = pm_we (nI (pm_tk ((S 4) j7))) (nI j3) (nI 0) := h19
                refine lv_topi (fun x20 e21 => ?_)
                obtain rfl : x20 = nI (pm_tk (pm_sm (S 4 j7) j3 j9)) := e21.trans ((by have h9 := pm_wet (hI.okm j7 hj7) hj3 hj9; first | (rw [if_pos (by assumption)] at h9; exact h9) | (rw [if_neg (by assumption)] at h9; exact h9)))
                refine kx_iast (ws' := pm_sh y q (pm_vn (S 9)) (pm_vn (S 0)) (pm_vt (updN (S 4) j7 (pm_sm (S 4 j7) j3 j9))) (pm_vc (S 4)) (pm_vn (S 1)) (pm_vn (S 2)) (pm_vi (S 3)) (pm_vn (S 5)) (pm_vn (S 6)) (pm_vn (S 7)) (pm_vn (S 8)) (pm_vn (S 11)) (nI (S 10 0)) (nI (S 10 1)) (nI (S 10 2))) hx hb hK hP hD hS 3 0 rfl rfl (by omega) (by decide) (pm_vt_u (S 4) j7 (pm_sm (S 4 j7) j3 j9)) rfl dX2_putMark_95 (fun H locs hP hD hS => ?_)
                refine lv_aload_n hx hb dX2_putMark_96 rfl (lv_at hl 1 rfl) ?_
                refine va_get (D := D) (ci := 2) (v := .ref (q 4)) (C := RX2) (T := TX2) (N := 15) hx hb hts hin2 hown hK hP 0 rfl rfl 3 (by decide) (hts (.fieldLink RX2 21 "ProofMarks$Sheet" "crosses" "[I") (List.mem_of_getElem? (i := 3) rfl)) (fun _ h9 => h9) rfl dX2_putMark_97 ?_
                refine lv_iload_n hx hb dX2_putMark_100 rfl (lv_at hl 3 rfl) ?_
                refine lv_aload_n hx hb dX2_putMark_101 rfl (lv_at hl 1 rfl) ?_
                refine va_get (D := D) (ci := 2) (v := .ref (q 4)) (C := RX2) (T := TX2) (N := 15) hx hb hts hin2 hown hK hP 0 rfl rfl 3 (by decide) (hts (.fieldLink RX2 21 "ProofMarks$Sheet" "crosses" "[I") (List.mem_of_getElem? (i := 3) rfl)) (fun _ h9 => h9) rfl dX2_putMark_102 ?_
                refine lv_iload_n hx hb dX2_putMark_105 rfl (lv_at hl 3 rfl) ?_
                refine kx_iald (v := nI (pm_ck ((S 4) j7))) hx hb hK hP 4 0 rfl rfl (by omega) (by decide) rfl dX2_putMark_106 ?_
                have := pm_ck8 ((S 4) j7)
                refine lv_iload_n hx hb dX2_putMark_107 rfl (lv_at hl 2 rfl) ?_
                refine lv_iload_n hx hb dX2_putMark_108 rfl (lv_at hl 4 rfl) ?_
                refine lv_iconst (v := nI 2) hx hb dX2_putMark_109 (by decide) ?_
                refine kx_icmp_ne (tgt := 117) hx hb (by omega) (by decide) dX2_putMark_110 (by decide) (fun c22 => ?_) (fun c22 => ?_)
                · skip
                  refine lv_iconst (v := nI 0) hx hb dX2_putMark_117 (by decide) ?_
                  refine vp_callSi (W.runS (As := [.int (nI (pm_ck ((S 4) j7))), .int (nI j3), .int (nI 0)]) (rest := [.int (nI j7), .ref (q 4)]) ⟨hx, hb, hml, hown, hts⟩ (k_X2_withEditor l (nI (pm_ck ((S 4) j7))) (nI j3) (nI 0)) (va_cwS 3 hts gX2_putMark_X2_withEditor rfl rfl rfl hd_X2_withEditor ⟨Nat.le_of_ble_eq_true rfl, Nat.le_of_ble_eq_true rfl⟩) ⟨pm_no_blind, pm_no_pre⟩ rfl rfl hl.1 rfl (lv_room (Nat.le_of_ble_eq_true rfl)) dX2_putMark_118 ⟨Nat.le_of_ble_eq_true rfl, Nat.le_of_ble_eq_true rfl⟩) (fun r23 h24 => ?_)
                  obtain rfl : r23 = pm_we (nI (pm_ck ((S 4) j7))) (nI j3) (nI 0) := h24
                  refine lv_topi (fun x25 e26 => ?_)
                  obtain rfl : x25 = nI (pm_ck (pm_sm (S 4 j7) j3 j9)) := e26.trans ((by have h9 := pm_wec (hI.okm j7 hj7) hj3 hj9; first | (rw [if_pos (by assumption)] at h9; exact h9) | (rw [if_neg (by assumption)] at h9; exact h9)))
                  refine kx_iast (ws' := pm_sh y q (pm_vn (S 9)) (pm_vn (S 0)) (pm_vt (updN (S 4) j7 (pm_sm (S 4 j7) j3 j9))) (pm_vc (updN (S 4) j7 (pm_sm (S 4 j7) j3 j9))) (pm_vn (S 1)) (pm_vn (S 2)) (pm_vi (S 3)) (pm_vn (S 5)) (pm_vn (S 6)) (pm_vn (S 7)) (pm_vn (S 8)) (pm_vn (S 11)) (nI (S 10 0)) (nI (S 10 1)) (nI (S 10 2))) hx hb hK hP hD hS 4 0 rfl rfl (by omega) (by decide) (pm_vc_u (S 4) j7 (pm_sm (S 4 j7) j3 j9)) rfl dX2_putMark_121 (fun H locs hP hD hS => ?_)
                  refine lv_iload hx hb dX2_putMark_122 (lv_at hl 0 rfl) ?_
                  have E : pm_aMark S (nI j3) (nI j7) (nI j9) = (nI (pm_mk (S 4 j7) j3), pm_st S 4 j7 (pm_sm (S 4 j7) j3 j9)) := by simp only [pm_aMark, pm_ix_in hj3 (show (3 : Nat) < 2 ^ 31 by decide), pm_ix_in hj7 (show (30 : Nat) < 2 ^ 31 by decide), pm_ix_in hj9 (show (3 : Nat) < 2 ^ 31 by decide)] <;> ((repeat' split) <;> first | rfl | (exfalso; omega))
                  exact W.iret hx hb hr (fun t ht _ => ⟨⟨_, (), rfl, (by rw [E]), (by show va_P D vwCl (pm_shS y q (pm_aMark S (nI j3) (nI j7) (nI j9)).2) t.heap; rw [ht]; exact (by rw [E]; exact hP))⟩, hS.F ht⟩) hS.2.2 dX2_putMark_124
                · skip
                  refine lv_iconst (v := nI 1) hx hb dX2_putMark_113 (by decide) ?_
                  refine lv_goto (tgt := 118) hx hb dX2_putMark_114 (by decide) ?_
                  refine vp_callSi (W.runS (As := [.int (nI (pm_ck ((S 4) j7))), .int (nI j3), .int (nI 1)]) (rest := [.int (nI j7), .ref (q 4)]) ⟨hx, hb, hml, hown, hts⟩ (k_X2_withEditor l (nI (pm_ck ((S 4) j7))) (nI j3) (nI 1)) (va_cwS 3 hts gX2_putMark_X2_withEditor rfl rfl rfl hd_X2_withEditor ⟨Nat.le_of_ble_eq_true rfl, Nat.le_of_ble_eq_true rfl⟩) ⟨pm_no_blind, pm_no_pre⟩ rfl rfl hl.1 rfl (lv_room (Nat.le_of_ble_eq_true rfl)) dX2_putMark_118 ⟨Nat.le_of_ble_eq_true rfl, Nat.le_of_ble_eq_true rfl⟩) (fun r27 h28 => ?_)
                  obtain rfl : r27 = pm_we (nI (pm_ck ((S 4) j7))) (nI j3) (nI 1) := h28
                  refine lv_topi (fun x29 e30 => ?_)
                  obtain rfl : x29 = nI (pm_ck (pm_sm (S 4 j7) j3 j9)) := e30.trans ((by have h9 := pm_wec (hI.okm j7 hj7) hj3 hj9; first | (rw [if_pos (by assumption)] at h9; exact h9) | (rw [if_neg (by assumption)] at h9; exact h9)))
                  refine kx_iast (ws' := pm_sh y q (pm_vn (S 9)) (pm_vn (S 0)) (pm_vt (updN (S 4) j7 (pm_sm (S 4 j7) j3 j9))) (pm_vc (updN (S 4) j7 (pm_sm (S 4 j7) j3 j9))) (pm_vn (S 1)) (pm_vn (S 2)) (pm_vi (S 3)) (pm_vn (S 5)) (pm_vn (S 6)) (pm_vn (S 7)) (pm_vn (S 8)) (pm_vn (S 11)) (nI (S 10 0)) (nI (S 10 1)) (nI (S 10 2))) hx hb hK hP hD hS 4 0 rfl rfl (by omega) (by decide) (pm_vc_u (S 4) j7 (pm_sm (S 4 j7) j3 j9)) rfl dX2_putMark_121 (fun H locs hP hD hS => ?_)
                  refine lv_iload hx hb dX2_putMark_122 (lv_at hl 0 rfl) ?_
                  have E : pm_aMark S (nI j3) (nI j7) (nI j9) = (nI (pm_mk (S 4 j7) j3), pm_st S 4 j7 (pm_sm (S 4 j7) j3 j9)) := by simp only [pm_aMark, pm_ix_in hj3 (show (3 : Nat) < 2 ^ 31 by decide), pm_ix_in hj7 (show (30 : Nat) < 2 ^ 31 by decide), pm_ix_in hj9 (show (3 : Nat) < 2 ^ 31 by decide)] <;> ((repeat' split) <;> first | rfl | (exfalso; omega))
                  exact W.iret hx hb hr (fun t ht _ => ⟨⟨_, (), rfl, (by rw [E]), (by show va_P D vwCl (pm_shS y q (pm_aMark S (nI j3) (nI j7) (nI j9)).2) t.heap; rw [ht]; exact (by rw [E]; exact hP))⟩, hS.F ht⟩) hS.2.2 dX2_putMark_124
              · skip
                refine lv_iconst (v := nI 1) hx hb dX2_putMark_87 (by decide) ?_
                refine lv_goto (tgt := 92) hx hb dX2_putMark_88 (by decide) ?_
                refine vp_callSi (W.runS (As := [.int (nI (pm_tk ((S 4) j7))), .int (nI j3), .int (nI 1)]) (rest := [.int (nI j7), .ref (q 3)]) ⟨hx, hb, hml, hown, hts⟩ (k_X2_withEditor l (nI (pm_tk ((S 4) j7))) (nI j3) (nI 1)) (va_cwS 3 hts gX2_putMark_X2_withEditor rfl rfl rfl hd_X2_withEditor ⟨Nat.le_of_ble_eq_true rfl, Nat.le_of_ble_eq_true rfl⟩) ⟨pm_no_blind, pm_no_pre⟩ rfl rfl hl.1 rfl (lv_room (Nat.le_of_ble_eq_true rfl)) dX2_putMark_92 ⟨Nat.le_of_ble_eq_true rfl, Nat.le_of_ble_eq_true rfl⟩) (fun r31 h32 => ?_)
                obtain rfl : r31 = pm_we (nI (pm_tk ((S 4) j7))) (nI j3) (nI 1) := h32
                refine lv_topi (fun x33 e34 => ?_)
                obtain rfl : x33 = nI (pm_tk (pm_sm (S 4 j7) j3 j9)) := e34.trans ((by have h9 := pm_wet (hI.okm j7 hj7) hj3 hj9; first | (rw [if_pos (by assumption)] at h9; exact h9) | (rw [if_neg (by assumption)] at h9; exact h9)))
                refine kx_iast (ws' := pm_sh y q (pm_vn (S 9)) (pm_vn (S 0)) (pm_vt (updN (S 4) j7 (pm_sm (S 4 j7) j3 j9))) (pm_vc (S 4)) (pm_vn (S 1)) (pm_vn (S 2)) (pm_vi (S 3)) (pm_vn (S 5)) (pm_vn (S 6)) (pm_vn (S 7)) (pm_vn (S 8)) (pm_vn (S 11)) (nI (S 10 0)) (nI (S 10 1)) (nI (S 10 2))) hx hb hK hP hD hS 3 0 rfl rfl (by omega) (by decide) (pm_vt_u (S 4) j7 (pm_sm (S 4 j7) j3 j9)) rfl dX2_putMark_95 (fun H locs hP hD hS => ?_)
                refine lv_aload_n hx hb dX2_putMark_96 rfl (lv_at hl 1 rfl) ?_
                refine va_get (D := D) (ci := 2) (v := .ref (q 4)) (C := RX2) (T := TX2) (N := 15) hx hb hts hin2 hown hK hP 0 rfl rfl 3 (by decide) (hts (.fieldLink RX2 21 "ProofMarks$Sheet" "crosses" "[I") (List.mem_of_getElem? (i := 3) rfl)) (fun _ h9 => h9) rfl dX2_putMark_97 ?_
                refine lv_iload_n hx hb dX2_putMark_100 rfl (lv_at hl 3 rfl) ?_
                refine lv_aload_n hx hb dX2_putMark_101 rfl (lv_at hl 1 rfl) ?_
                refine va_get (D := D) (ci := 2) (v := .ref (q 4)) (C := RX2) (T := TX2) (N := 15) hx hb hts hin2 hown hK hP 0 rfl rfl 3 (by decide) (hts (.fieldLink RX2 21 "ProofMarks$Sheet" "crosses" "[I") (List.mem_of_getElem? (i := 3) rfl)) (fun _ h9 => h9) rfl dX2_putMark_102 ?_
                refine lv_iload_n hx hb dX2_putMark_105 rfl (lv_at hl 3 rfl) ?_
                refine kx_iald (v := nI (pm_ck ((S 4) j7))) hx hb hK hP 4 0 rfl rfl (by omega) (by decide) rfl dX2_putMark_106 ?_
                have := pm_ck8 ((S 4) j7)
                refine lv_iload_n hx hb dX2_putMark_107 rfl (lv_at hl 2 rfl) ?_
                refine lv_iload_n hx hb dX2_putMark_108 rfl (lv_at hl 4 rfl) ?_
                refine lv_iconst (v := nI 2) hx hb dX2_putMark_109 (by decide) ?_
                refine kx_icmp_ne (tgt := 117) hx hb (by omega) (by decide) dX2_putMark_110 (by decide) (fun c35 => ?_) (fun c35 => ?_)
                · skip
                  refine lv_iconst (v := nI 0) hx hb dX2_putMark_117 (by decide) ?_
                  refine vp_callSi (W.runS (As := [.int (nI (pm_ck ((S 4) j7))), .int (nI j3), .int (nI 0)]) (rest := [.int (nI j7), .ref (q 4)]) ⟨hx, hb, hml, hown, hts⟩ (k_X2_withEditor l (nI (pm_ck ((S 4) j7))) (nI j3) (nI 0)) (va_cwS 3 hts gX2_putMark_X2_withEditor rfl rfl rfl hd_X2_withEditor ⟨Nat.le_of_ble_eq_true rfl, Nat.le_of_ble_eq_true rfl⟩) ⟨pm_no_blind, pm_no_pre⟩ rfl rfl hl.1 rfl (lv_room (Nat.le_of_ble_eq_true rfl)) dX2_putMark_118 ⟨Nat.le_of_ble_eq_true rfl, Nat.le_of_ble_eq_true rfl⟩) (fun r36 h37 => ?_)
                  obtain rfl : r36 = pm_we (nI (pm_ck ((S 4) j7))) (nI j3) (nI 0) := h37
                  refine lv_topi (fun x38 e39 => ?_)
                  obtain rfl : x38 = nI (pm_ck (pm_sm (S 4 j7) j3 j9)) := e39.trans ((by have h9 := pm_wec (hI.okm j7 hj7) hj3 hj9; first | (rw [if_pos (by assumption)] at h9; exact h9) | (rw [if_neg (by assumption)] at h9; exact h9)))
                  refine kx_iast (ws' := pm_sh y q (pm_vn (S 9)) (pm_vn (S 0)) (pm_vt (updN (S 4) j7 (pm_sm (S 4 j7) j3 j9))) (pm_vc (updN (S 4) j7 (pm_sm (S 4 j7) j3 j9))) (pm_vn (S 1)) (pm_vn (S 2)) (pm_vi (S 3)) (pm_vn (S 5)) (pm_vn (S 6)) (pm_vn (S 7)) (pm_vn (S 8)) (pm_vn (S 11)) (nI (S 10 0)) (nI (S 10 1)) (nI (S 10 2))) hx hb hK hP hD hS 4 0 rfl rfl (by omega) (by decide) (pm_vc_u (S 4) j7 (pm_sm (S 4 j7) j3 j9)) rfl dX2_putMark_121 (fun H locs hP hD hS => ?_)
                  refine lv_iload hx hb dX2_putMark_122 (lv_at hl 0 rfl) ?_
                  have E : pm_aMark S (nI j3) (nI j7) (nI j9) = (nI (pm_mk (S 4 j7) j3), pm_st S 4 j7 (pm_sm (S 4 j7) j3 j9)) := by simp only [pm_aMark, pm_ix_in hj3 (show (3 : Nat) < 2 ^ 31 by decide), pm_ix_in hj7 (show (30 : Nat) < 2 ^ 31 by decide), pm_ix_in hj9 (show (3 : Nat) < 2 ^ 31 by decide)] <;> ((repeat' split) <;> first | rfl | (exfalso; omega))
                  exact W.iret hx hb hr (fun t ht _ => ⟨⟨_, (), rfl, (by rw [E]), (by show va_P D vwCl (pm_shS y q (pm_aMark S (nI j3) (nI j7) (nI j9)).2) t.heap; rw [ht]; exact (by rw [E]; exact hP))⟩, hS.F ht⟩) hS.2.2 dX2_putMark_124
                · skip
                  refine lv_iconst (v := nI 1) hx hb dX2_putMark_113 (by decide) ?_
                  refine lv_goto (tgt := 118) hx hb dX2_putMark_114 (by decide) ?_
                  refine vp_callSi (W.runS (As := [.int (nI (pm_ck ((S 4) j7))), .int (nI j3), .int (nI 1)]) (rest := [.int (nI j7), .ref (q 4)]) ⟨hx, hb, hml, hown, hts⟩ (k_X2_withEditor l (nI (pm_ck ((S 4) j7))) (nI j3) (nI 1)) (va_cwS 3 hts gX2_putMark_X2_withEditor rfl rfl rfl hd_X2_withEditor ⟨Nat.le_of_ble_eq_true rfl, Nat.le_of_ble_eq_true rfl⟩) ⟨pm_no_blind, pm_no_pre⟩ rfl rfl hl.1 rfl (lv_room (Nat.le_of_ble_eq_true rfl)) dX2_putMark_118 ⟨Nat.le_of_ble_eq_true rfl, Nat.le_of_ble_eq_true rfl⟩) (fun r40 h41 => ?_)
                  obtain rfl : r40 = pm_we (nI (pm_ck ((S 4) j7))) (nI j3) (nI 1) := h41
                  refine lv_topi (fun x42 e43 => ?_)
                  obtain rfl : x42 = nI (pm_ck (pm_sm (S 4 j7) j3 j9)) := e43.trans ((by have h9 := pm_wec (hI.okm j7 hj7) hj3 hj9; first | (rw [if_pos (by assumption)] at h9; exact h9) | (rw [if_neg (by assumption)] at h9; exact h9)))
                  refine kx_iast (ws' := pm_sh y q (pm_vn (S 9)) (pm_vn (S 0)) (pm_vt (updN (S 4) j7 (pm_sm (S 4 j7) j3 j9))) (pm_vc (updN (S 4) j7 (pm_sm (S 4 j7) j3 j9))) (pm_vn (S 1)) (pm_vn (S 2)) (pm_vi (S 3)) (pm_vn (S 5)) (pm_vn (S 6)) (pm_vn (S 7)) (pm_vn (S 8)) (pm_vn (S 11)) (nI (S 10 0)) (nI (S 10 1)) (nI (S 10 2))) hx hb hK hP hD hS 4 0 rfl rfl (by omega) (by decide) (pm_vc_u (S 4) j7 (pm_sm (S 4 j7) j3 j9)) rfl dX2_putMark_121 (fun H locs hP hD hS => ?_)
                  refine lv_iload hx hb dX2_putMark_122 (lv_at hl 0 rfl) ?_
                  have E : pm_aMark S (nI j3) (nI j7) (nI j9) = (nI (pm_mk (S 4 j7) j3), pm_st S 4 j7 (pm_sm (S 4 j7) j3 j9)) := by simp only [pm_aMark, pm_ix_in hj3 (show (3 : Nat) < 2 ^ 31 by decide), pm_ix_in hj7 (show (30 : Nat) < 2 ^ 31 by decide), pm_ix_in hj9 (show (3 : Nat) < 2 ^ 31 by decide)] <;> ((repeat' split) <;> first | rfl | (exfalso; omega))
                  exact W.iret hx hb hr (fun t ht _ => ⟨⟨_, (), rfl, (by rw [E]), (by show va_P D vwCl (pm_shS y q (pm_aMark S (nI j3) (nI j7) (nI j9)).2) t.heap; rw [ht]; exact (by rw [E]; exact hP))⟩, hS.F ht⟩) hS.2.2 dX2_putMark_124
            · skip
              refine lv_iload hx hb dX2_putMark_53 (lv_at hl 0 rfl) ?_
              refine lv_iconst (v := nI 2) hx hb dX2_putMark_55 (by decide) ?_
              refine kx_icmp_eq (tgt := 70) hx hb (by omega) (by decide) dX2_putMark_56 (by decide) (fun c44 => ?_) (fun c44 => ?_)
              · skip
                refine lv_aload_n hx hb dX2_putMark_70 rfl (lv_at hl 1 rfl) ?_
                refine va_get (D := D) (ci := 2) (v := .ref (q 3)) (C := RX2) (T := TX2) (N := 15) hx hb hts hin2 hown hK hP 0 rfl rfl 2 (by decide) (hts (.fieldLink RX2 18 "ProofMarks$Sheet" "ticks" "[I") (List.mem_of_getElem? (i := 2) rfl)) (fun _ h9 => h9) rfl dX2_putMark_71 ?_
                refine lv_iload_n hx hb dX2_putMark_74 rfl (lv_at hl 3 rfl) ?_
                refine lv_aload_n hx hb dX2_putMark_75 rfl (lv_at hl 1 rfl) ?_
                refine va_get (D := D) (ci := 2) (v := .ref (q 3)) (C := RX2) (T := TX2) (N := 15) hx hb hts hin2 hown hK hP 0 rfl rfl 2 (by decide) (hts (.fieldLink RX2 18 "ProofMarks$Sheet" "ticks" "[I") (List.mem_of_getElem? (i := 2) rfl)) (fun _ h9 => h9) rfl dX2_putMark_76 ?_
                refine lv_iload_n hx hb dX2_putMark_79 rfl (lv_at hl 3 rfl) ?_
                refine kx_iald (v := nI (pm_tk ((S 4) j7))) hx hb hK hP 3 0 rfl rfl (by omega) (by decide) rfl dX2_putMark_80 ?_
                have := pm_tk8 ((S 4) j7)
                refine lv_iload_n hx hb dX2_putMark_81 rfl (lv_at hl 2 rfl) ?_
                refine lv_iload_n hx hb dX2_putMark_82 rfl (lv_at hl 4 rfl) ?_
                refine lv_iconst (v := nI 1) hx hb dX2_putMark_83 (by decide) ?_
                refine kx_icmp_ne (tgt := 91) hx hb (by omega) (by decide) dX2_putMark_84 (by decide) (fun c45 => ?_) (fun c45 => ?_)
                · skip
                  refine lv_iconst (v := nI 0) hx hb dX2_putMark_91 (by decide) ?_
                  refine vp_callSi (W.runS (As := [.int (nI (pm_tk ((S 4) j7))), .int (nI j3), .int (nI 0)]) (rest := [.int (nI j7), .ref (q 3)]) ⟨hx, hb, hml, hown, hts⟩ (k_X2_withEditor l (nI (pm_tk ((S 4) j7))) (nI j3) (nI 0)) (va_cwS 3 hts gX2_putMark_X2_withEditor rfl rfl rfl hd_X2_withEditor ⟨Nat.le_of_ble_eq_true rfl, Nat.le_of_ble_eq_true rfl⟩) ⟨pm_no_blind, pm_no_pre⟩ rfl rfl hl.1 rfl (lv_room (Nat.le_of_ble_eq_true rfl)) dX2_putMark_92 ⟨Nat.le_of_ble_eq_true rfl, Nat.le_of_ble_eq_true rfl⟩) (fun r46 h47 => ?_)
                  obtain rfl : r46 = pm_we (nI (pm_tk ((S 4) j7))) (nI j3) (nI 0) := h47
                  refine lv_topi (fun x48 e49 => ?_)
                  obtain rfl : x48 = nI (pm_tk (pm_sm (S 4 j7) j3 j9)) := e49.trans ((by have h9 := pm_wet (hI.okm j7 hj7) hj3 hj9; first | (rw [if_pos (by assumption)] at h9; exact h9) | (rw [if_neg (by assumption)] at h9; exact h9)))
                  refine kx_iast (ws' := pm_sh y q (pm_vn (S 9)) (pm_vn (S 0)) (pm_vt (updN (S 4) j7 (pm_sm (S 4 j7) j3 j9))) (pm_vc (S 4)) (pm_vn (S 1)) (pm_vn (S 2)) (pm_vi (S 3)) (pm_vn (S 5)) (pm_vn (S 6)) (pm_vn (S 7)) (pm_vn (S 8)) (pm_vn (S 11)) (nI (S 10 0)) (nI (S 10 1)) (nI (S 10 2))) hx hb hK hP hD hS 3 0 rfl rfl (by omega) (by decide) (pm_vt_u (S 4) j7 (pm_sm (S 4 j7) j3 j9)) rfl dX2_putMark_95 (fun H locs hP hD hS => ?_)
                  refine lv_aload_n hx hb dX2_putMark_96 rfl (lv_at hl 1 rfl) ?_
                  refine va_get (D := D) (ci := 2) (v := .ref (q 4)) (C := RX2) (T := TX2) (N := 15) hx hb hts hin2 hown hK hP 0 rfl rfl 3 (by decide) (hts (.fieldLink RX2 21 "ProofMarks$Sheet" "crosses" "[I") (List.mem_of_getElem? (i := 3) rfl)) (fun _ h9 => h9) rfl dX2_putMark_97 ?_
                  refine lv_iload_n hx hb dX2_putMark_100 rfl (lv_at hl 3 rfl) ?_
                  refine lv_aload_n hx hb dX2_putMark_101 rfl (lv_at hl 1 rfl) ?_
                  refine va_get (D := D) (ci := 2) (v := .ref (q 4)) (C := RX2) (T := TX2) (N := 15) hx hb hts hin2 hown hK hP 0 rfl rfl 3 (by decide) (hts (.fieldLink RX2 21 "ProofMarks$Sheet" "crosses" "[I") (List.mem_of_getElem? (i := 3) rfl)) (fun _ h9 => h9) rfl dX2_putMark_102 ?_
                  refine lv_iload_n hx hb dX2_putMark_105 rfl (lv_at hl 3 rfl) ?_
                  refine kx_iald (v := nI (pm_ck ((S 4) j7))) hx hb hK hP 4 0 rfl rfl (by omega) (by decide) rfl dX2_putMark_106 ?_
                  have := pm_ck8 ((S 4) j7)
                  refine lv_iload_n hx hb dX2_putMark_107 rfl (lv_at hl 2 rfl) ?_
                  refine lv_iload_n hx hb dX2_putMark_108 rfl (lv_at hl 4 rfl) ?_
                  refine lv_iconst (v := nI 2) hx hb dX2_putMark_109 (by decide) ?_
                  refine kx_icmp_ne (tgt := 117) hx hb (by omega) (by decide) dX2_putMark_110 (by decide) (fun c50 => ?_) (fun c50 => ?_)
                  · skip
                    refine lv_iconst (v := nI 0) hx hb dX2_putMark_117 (by decide) ?_
                    refine vp_callSi (W.runS (As := [.int (nI (pm_ck ((S 4) j7))), .int (nI j3), .int (nI 0)]) (rest := [.int (nI j7), .ref (q 4)]) ⟨hx, hb, hml, hown, hts⟩ (k_X2_withEditor l (nI (pm_ck ((S 4) j7))) (nI j3) (nI 0)) (va_cwS 3 hts gX2_putMark_X2_withEditor rfl rfl rfl hd_X2_withEditor ⟨Nat.le_of_ble_eq_true rfl, Nat.le_of_ble_eq_true rfl⟩) ⟨pm_no_blind, pm_no_pre⟩ rfl rfl hl.1 rfl (lv_room (Nat.le_of_ble_eq_true rfl)) dX2_putMark_118 ⟨Nat.le_of_ble_eq_true rfl, Nat.le_of_ble_eq_true rfl⟩) (fun r51 h52 => ?_)
                    obtain rfl : r51 = pm_we (nI (pm_ck ((S 4) j7))) (nI j3) (nI 0) := h52
                    refine lv_topi (fun x53 e54 => ?_)
                    obtain rfl : x53 = nI (pm_ck (pm_sm (S 4 j7) j3 j9)) := e54.trans ((by have h9 := pm_wec (hI.okm j7 hj7) hj3 hj9; first | (rw [if_pos (by assumption)] at h9; exact h9) | (rw [if_neg (by assumption)] at h9; exact h9)))
                    refine kx_iast (ws' := pm_sh y q (pm_vn (S 9)) (pm_vn (S 0)) (pm_vt (updN (S 4) j7 (pm_sm (S 4 j7) j3 j9))) (pm_vc (updN (S 4) j7 (pm_sm (S 4 j7) j3 j9))) (pm_vn (S 1)) (pm_vn (S 2)) (pm_vi (S 3)) (pm_vn (S 5)) (pm_vn (S 6)) (pm_vn (S 7)) (pm_vn (S 8)) (pm_vn (S 11)) (nI (S 10 0)) (nI (S 10 1)) (nI (S 10 2))) hx hb hK hP hD hS 4 0 rfl rfl (by omega) (by decide) (pm_vc_u (S 4) j7 (pm_sm (S 4 j7) j3 j9)) rfl dX2_putMark_121 (fun H locs hP hD hS => ?_)
                    refine lv_iload hx hb dX2_putMark_122 (lv_at hl 0 rfl) ?_
                    have E : pm_aMark S (nI j3) (nI j7) (nI j9) = (nI (pm_mk (S 4 j7) j3), pm_st S 4 j7 (pm_sm (S 4 j7) j3 j9)) := by simp only [pm_aMark, pm_ix_in hj3 (show (3 : Nat) < 2 ^ 31 by decide), pm_ix_in hj7 (show (30 : Nat) < 2 ^ 31 by decide), pm_ix_in hj9 (show (3 : Nat) < 2 ^ 31 by decide)] <;> ((repeat' split) <;> first | rfl | (exfalso; omega))
                    exact W.iret hx hb hr (fun t ht _ => ⟨⟨_, (), rfl, (by rw [E]), (by show va_P D vwCl (pm_shS y q (pm_aMark S (nI j3) (nI j7) (nI j9)).2) t.heap; rw [ht]; exact (by rw [E]; exact hP))⟩, hS.F ht⟩) hS.2.2 dX2_putMark_124
                  · skip
                    refine lv_iconst (v := nI 1) hx hb dX2_putMark_113 (by decide) ?_
                    refine lv_goto (tgt := 118) hx hb dX2_putMark_114 (by decide) ?_
                    refine vp_callSi (W.runS (As := [.int (nI (pm_ck ((S 4) j7))), .int (nI j3), .int (nI 1)]) (rest := [.int (nI j7), .ref (q 4)]) ⟨hx, hb, hml, hown, hts⟩ (k_X2_withEditor l (nI (pm_ck ((S 4) j7))) (nI j3) (nI 1)) (va_cwS 3 hts gX2_putMark_X2_withEditor rfl rfl rfl hd_X2_withEditor ⟨Nat.le_of_ble_eq_true rfl, Nat.le_of_ble_eq_true rfl⟩) ⟨pm_no_blind, pm_no_pre⟩ rfl rfl hl.1 rfl (lv_room (Nat.le_of_ble_eq_true rfl)) dX2_putMark_118 ⟨Nat.le_of_ble_eq_true rfl, Nat.le_of_ble_eq_true rfl⟩) (fun r55 h56 => ?_)
                    obtain rfl : r55 = pm_we (nI (pm_ck ((S 4) j7))) (nI j3) (nI 1) := h56
                    refine lv_topi (fun x57 e58 => ?_)
                    obtain rfl : x57 = nI (pm_ck (pm_sm (S 4 j7) j3 j9)) := e58.trans ((by have h9 := pm_wec (hI.okm j7 hj7) hj3 hj9; first | (rw [if_pos (by assumption)] at h9; exact h9) | (rw [if_neg (by assumption)] at h9; exact h9)))
                    refine kx_iast (ws' := pm_sh y q (pm_vn (S 9)) (pm_vn (S 0)) (pm_vt (updN (S 4) j7 (pm_sm (S 4 j7) j3 j9))) (pm_vc (updN (S 4) j7 (pm_sm (S 4 j7) j3 j9))) (pm_vn (S 1)) (pm_vn (S 2)) (pm_vi (S 3)) (pm_vn (S 5)) (pm_vn (S 6)) (pm_vn (S 7)) (pm_vn (S 8)) (pm_vn (S 11)) (nI (S 10 0)) (nI (S 10 1)) (nI (S 10 2))) hx hb hK hP hD hS 4 0 rfl rfl (by omega) (by decide) (pm_vc_u (S 4) j7 (pm_sm (S 4 j7) j3 j9)) rfl dX2_putMark_121 (fun H locs hP hD hS => ?_)
                    refine lv_iload hx hb dX2_putMark_122 (lv_at hl 0 rfl) ?_
                    have E : pm_aMark S (nI j3) (nI j7) (nI j9) = (nI (pm_mk (S 4 j7) j3), pm_st S 4 j7 (pm_sm (S 4 j7) j3 j9)) := by simp only [pm_aMark, pm_ix_in hj3 (show (3 : Nat) < 2 ^ 31 by decide), pm_ix_in hj7 (show (30 : Nat) < 2 ^ 31 by decide), pm_ix_in hj9 (show (3 : Nat) < 2 ^ 31 by decide)] <;> ((repeat' split) <;> first | rfl | (exfalso; omega))
                    exact W.iret hx hb hr (fun t ht _ => ⟨⟨_, (), rfl, (by rw [E]), (by show va_P D vwCl (pm_shS y q (pm_aMark S (nI j3) (nI j7) (nI j9)).2) t.heap; rw [ht]; exact (by rw [E]; exact hP))⟩, hS.F ht⟩) hS.2.2 dX2_putMark_124
                · skip
                  refine lv_iconst (v := nI 1) hx hb dX2_putMark_87 (by decide) ?_
                  refine lv_goto (tgt := 92) hx hb dX2_putMark_88 (by decide) ?_
                  refine vp_callSi (W.runS (As := [.int (nI (pm_tk ((S 4) j7))), .int (nI j3), .int (nI 1)]) (rest := [.int (nI j7), .ref (q 3)]) ⟨hx, hb, hml, hown, hts⟩ (k_X2_withEditor l (nI (pm_tk ((S 4) j7))) (nI j3) (nI 1)) (va_cwS 3 hts gX2_putMark_X2_withEditor rfl rfl rfl hd_X2_withEditor ⟨Nat.le_of_ble_eq_true rfl, Nat.le_of_ble_eq_true rfl⟩) ⟨pm_no_blind, pm_no_pre⟩ rfl rfl hl.1 rfl (lv_room (Nat.le_of_ble_eq_true rfl)) dX2_putMark_92 ⟨Nat.le_of_ble_eq_true rfl, Nat.le_of_ble_eq_true rfl⟩) (fun r59 h60 => ?_)
                  obtain rfl : r59 = pm_we (nI (pm_tk ((S 4) j7))) (nI j3) (nI 1) := h60
                  refine lv_topi (fun x61 e62 => ?_)
                  obtain rfl : x61 = nI (pm_tk (pm_sm (S 4 j7) j3 j9)) := e62.trans ((by have h9 := pm_wet (hI.okm j7 hj7) hj3 hj9; first | (rw [if_pos (by assumption)] at h9; exact h9) | (rw [if_neg (by assumption)] at h9; exact h9)))
                  refine kx_iast (ws' := pm_sh y q (pm_vn (S 9)) (pm_vn (S 0)) (pm_vt (updN (S 4) j7 (pm_sm (S 4 j7) j3 j9))) (pm_vc (S 4)) (pm_vn (S 1)) (pm_vn (S 2)) (pm_vi (S 3)) (pm_vn (S 5)) (pm_vn (S 6)) (pm_vn (S 7)) (pm_vn (S 8)) (pm_vn (S 11)) (nI (S 10 0)) (nI (S 10 1)) (nI (S 10 2))) hx hb hK hP hD hS 3 0 rfl rfl (by omega) (by decide) (pm_vt_u (S 4) j7 (pm_sm (S 4 j7) j3 j9)) rfl dX2_putMark_95 (fun H locs hP hD hS => ?_)
                  refine lv_aload_n hx hb dX2_putMark_96 rfl (lv_at hl 1 rfl) ?_
                  refine va_get (D := D) (ci := 2) (v := .ref (q 4)) (C := RX2) (T := TX2) (N := 15) hx hb hts hin2 hown hK hP 0 rfl rfl 3 (by decide) (hts (.fieldLink RX2 21 "ProofMarks$Sheet" "crosses" "[I") (List.mem_of_getElem? (i := 3) rfl)) (fun _ h9 => h9) rfl dX2_putMark_97 ?_
                  refine lv_iload_n hx hb dX2_putMark_100 rfl (lv_at hl 3 rfl) ?_
                  refine lv_aload_n hx hb dX2_putMark_101 rfl (lv_at hl 1 rfl) ?_
                  refine va_get (D := D) (ci := 2) (v := .ref (q 4)) (C := RX2) (T := TX2) (N := 15) hx hb hts hin2 hown hK hP 0 rfl rfl 3 (by decide) (hts (.fieldLink RX2 21 "ProofMarks$Sheet" "crosses" "[I") (List.mem_of_getElem? (i := 3) rfl)) (fun _ h9 => h9) rfl dX2_putMark_102 ?_
                  refine lv_iload_n hx hb dX2_putMark_105 rfl (lv_at hl 3 rfl) ?_
                  refine kx_iald (v := nI (pm_ck ((S 4) j7))) hx hb hK hP 4 0 rfl rfl (by omega) (by decide) rfl dX2_putMark_106 ?_
                  have := pm_ck8 ((S 4) j7)
                  refine lv_iload_n hx hb dX2_putMark_107 rfl (lv_at hl 2 rfl) ?_
                  refine lv_iload_n hx hb dX2_putMark_108 rfl (lv_at hl 4 rfl) ?_
                  refine lv_iconst (v := nI 2) hx hb dX2_putMark_109 (by decide) ?_
                  refine kx_icmp_ne (tgt := 117) hx hb (by omega) (by decide) dX2_putMark_110 (by decide) (fun c63 => ?_) (fun c63 => ?_)
                  · skip
                    refine lv_iconst (v := nI 0) hx hb dX2_putMark_117 (by decide) ?_
                    refine vp_callSi (W.runS (As := [.int (nI (pm_ck ((S 4) j7))), .int (nI j3), .int (nI 0)]) (rest := [.int (nI j7), .ref (q 4)]) ⟨hx, hb, hml, hown, hts⟩ (k_X2_withEditor l (nI (pm_ck ((S 4) j7))) (nI j3) (nI 0)) (va_cwS 3 hts gX2_putMark_X2_withEditor rfl rfl rfl hd_X2_withEditor ⟨Nat.le_of_ble_eq_true rfl, Nat.le_of_ble_eq_true rfl⟩) ⟨pm_no_blind, pm_no_pre⟩ rfl rfl hl.1 rfl (lv_room (Nat.le_of_ble_eq_true rfl)) dX2_putMark_118 ⟨Nat.le_of_ble_eq_true rfl, Nat.le_of_ble_eq_true rfl⟩) (fun r64 h65 => ?_)
                    obtain rfl : r64 = pm_we (nI (pm_ck ((S 4) j7))) (nI j3) (nI 0) := h65
                    refine lv_topi (fun x66 e67 => ?_)
                    obtain rfl : x66 = nI (pm_ck (pm_sm (S 4 j7) j3 j9)) := e67.trans ((by have h9 := pm_wec (hI.okm j7 hj7) hj3 hj9; first | (rw [if_pos (by assumption)] at h9; exact h9) | (rw [if_neg (by assumption)] at h9; exact h9)))
                    refine kx_iast (ws' := pm_sh y q (pm_vn (S 9)) (pm_vn (S 0)) (pm_vt (updN (S 4) j7 (pm_sm (S 4 j7) j3 j9))) (pm_vc (updN (S 4) j7 (pm_sm (S 4 j7) j3 j9))) (pm_vn (S 1)) (pm_vn (S 2)) (pm_vi (S 3)) (pm_vn (S 5)) (pm_vn (S 6)) (pm_vn (S 7)) (pm_vn (S 8)) (pm_vn (S 11)) (nI (S 10 0)) (nI (S 10 1)) (nI (S 10 2))) hx hb hK hP hD hS 4 0 rfl rfl (by omega) (by decide) (pm_vc_u (S 4) j7 (pm_sm (S 4 j7) j3 j9)) rfl dX2_putMark_121 (fun H locs hP hD hS => ?_)
                    refine lv_iload hx hb dX2_putMark_122 (lv_at hl 0 rfl) ?_
                    have E : pm_aMark S (nI j3) (nI j7) (nI j9) = (nI (pm_mk (S 4 j7) j3), pm_st S 4 j7 (pm_sm (S 4 j7) j3 j9)) := by simp only [pm_aMark, pm_ix_in hj3 (show (3 : Nat) < 2 ^ 31 by decide), pm_ix_in hj7 (show (30 : Nat) < 2 ^ 31 by decide), pm_ix_in hj9 (show (3 : Nat) < 2 ^ 31 by decide)] <;> ((repeat' split) <;> first | rfl | (exfalso; omega))
                    exact W.iret hx hb hr (fun t ht _ => ⟨⟨_, (), rfl, (by rw [E]), (by show va_P D vwCl (pm_shS y q (pm_aMark S (nI j3) (nI j7) (nI j9)).2) t.heap; rw [ht]; exact (by rw [E]; exact hP))⟩, hS.F ht⟩) hS.2.2 dX2_putMark_124
                  · skip
                    refine lv_iconst (v := nI 1) hx hb dX2_putMark_113 (by decide) ?_
                    refine lv_goto (tgt := 118) hx hb dX2_putMark_114 (by decide) ?_
                    refine vp_callSi (W.runS (As := [.int (nI (pm_ck ((S 4) j7))), .int (nI j3), .int (nI 1)]) (rest := [.int (nI j7), .ref (q 4)]) ⟨hx, hb, hml, hown, hts⟩ (k_X2_withEditor l (nI (pm_ck ((S 4) j7))) (nI j3) (nI 1)) (va_cwS 3 hts gX2_putMark_X2_withEditor rfl rfl rfl hd_X2_withEditor ⟨Nat.le_of_ble_eq_true rfl, Nat.le_of_ble_eq_true rfl⟩) ⟨pm_no_blind, pm_no_pre⟩ rfl rfl hl.1 rfl (lv_room (Nat.le_of_ble_eq_true rfl)) dX2_putMark_118 ⟨Nat.le_of_ble_eq_true rfl, Nat.le_of_ble_eq_true rfl⟩) (fun r68 h69 => ?_)
                    obtain rfl : r68 = pm_we (nI (pm_ck ((S 4) j7))) (nI j3) (nI 1) := h69
                    refine lv_topi (fun x70 e71 => ?_)
                    obtain rfl : x70 = nI (pm_ck (pm_sm (S 4 j7) j3 j9)) := e71.trans ((by have h9 := pm_wec (hI.okm j7 hj7) hj3 hj9; first | (rw [if_pos (by assumption)] at h9; exact h9) | (rw [if_neg (by assumption)] at h9; exact h9)))
                    refine kx_iast (ws' := pm_sh y q (pm_vn (S 9)) (pm_vn (S 0)) (pm_vt (updN (S 4) j7 (pm_sm (S 4 j7) j3 j9))) (pm_vc (updN (S 4) j7 (pm_sm (S 4 j7) j3 j9))) (pm_vn (S 1)) (pm_vn (S 2)) (pm_vi (S 3)) (pm_vn (S 5)) (pm_vn (S 6)) (pm_vn (S 7)) (pm_vn (S 8)) (pm_vn (S 11)) (nI (S 10 0)) (nI (S 10 1)) (nI (S 10 2))) hx hb hK hP hD hS 4 0 rfl rfl (by omega) (by decide) (pm_vc_u (S 4) j7 (pm_sm (S 4 j7) j3 j9)) rfl dX2_putMark_121 (fun H locs hP hD hS => ?_)
                    refine lv_iload hx hb dX2_putMark_122 (lv_at hl 0 rfl) ?_
                    have E : pm_aMark S (nI j3) (nI j7) (nI j9) = (nI (pm_mk (S 4 j7) j3), pm_st S 4 j7 (pm_sm (S 4 j7) j3 j9)) := by simp only [pm_aMark, pm_ix_in hj3 (show (3 : Nat) < 2 ^ 31 by decide), pm_ix_in hj7 (show (30 : Nat) < 2 ^ 31 by decide), pm_ix_in hj9 (show (3 : Nat) < 2 ^ 31 by decide)] <;> ((repeat' split) <;> first | rfl | (exfalso; omega))
                    exact W.iret hx hb hr (fun t ht _ => ⟨⟨_, (), rfl, (by rw [E]), (by show va_P D vwCl (pm_shS y q (pm_aMark S (nI j3) (nI j7) (nI j9)).2) t.heap; rw [ht]; exact (by rw [E]; exact hP))⟩, hS.F ht⟩) hS.2.2 dX2_putMark_124
              · skip
                refine lv_aload_n hx hb dX2_putMark_59 rfl (lv_at hl 1 rfl) ?_
                refine lv_iload_n hx hb dX2_putMark_60 rfl (lv_at hl 2 rfl) ?_
                refine vp_callSi (W.runV (As := [.int (nI j3)]) (rest := []) ⟨hx, hb, hml, hown, hts⟩ (k_X2_vetoesLeft l D y q S j3 hI (by omega)) (cwV 1 hts gX2_putMark_X2_vetoesLeft rfl rfl rfl hd_X2_vetoesLeft ⟨Nat.le_of_ble_eq_true rfl, Nat.le_of_ble_eq_true rfl⟩) ⟨pm_ro_blind, va_recv hK hP (ci := 2) (q0 := 0) rfl rfl, pm_ro_pre hP hK⟩ rfl rfl hl.1 rfl (lv_room (Nat.le_of_ble_eq_true rfl)) dX2_putMark_61 ⟨Nat.le_of_ble_eq_true rfl, Nat.le_of_ble_eq_true rfl⟩) (fun r72 h73 => ?_)
                obtain rfl : r72 = nI (S 9 1 - pm_cnt S j3 2 30) := h73
                have := hI.set9 1 (by decide)
                refine kx_if_ne (tgt := 70) hx hb (by omega) dX2_putMark_64 (by decide) (fun c74 => ?_) (fun c74 => ?_)
                · skip
                  refine lv_aload_n hx hb dX2_putMark_70 rfl (lv_at hl 1 rfl) ?_
                  refine va_get (D := D) (ci := 2) (v := .ref (q 3)) (C := RX2) (T := TX2) (N := 15) hx hb hts hin2 hown hK hP 0 rfl rfl 2 (by decide) (hts (.fieldLink RX2 18 "ProofMarks$Sheet" "ticks" "[I") (List.mem_of_getElem? (i := 2) rfl)) (fun _ h9 => h9) rfl dX2_putMark_71 ?_
                  refine lv_iload_n hx hb dX2_putMark_74 rfl (lv_at hl 3 rfl) ?_
                  refine lv_aload_n hx hb dX2_putMark_75 rfl (lv_at hl 1 rfl) ?_
                  refine va_get (D := D) (ci := 2) (v := .ref (q 3)) (C := RX2) (T := TX2) (N := 15) hx hb hts hin2 hown hK hP 0 rfl rfl 2 (by decide) (hts (.fieldLink RX2 18 "ProofMarks$Sheet" "ticks" "[I") (List.mem_of_getElem? (i := 2) rfl)) (fun _ h9 => h9) rfl dX2_putMark_76 ?_
                  refine lv_iload_n hx hb dX2_putMark_79 rfl (lv_at hl 3 rfl) ?_
                  refine kx_iald (v := nI (pm_tk ((S 4) j7))) hx hb hK hP 3 0 rfl rfl (by omega) (by decide) rfl dX2_putMark_80 ?_
                  have := pm_tk8 ((S 4) j7)
                  refine lv_iload_n hx hb dX2_putMark_81 rfl (lv_at hl 2 rfl) ?_
                  refine lv_iload_n hx hb dX2_putMark_82 rfl (lv_at hl 4 rfl) ?_
                  refine lv_iconst (v := nI 1) hx hb dX2_putMark_83 (by decide) ?_
                  refine kx_icmp_ne (tgt := 91) hx hb (by omega) (by decide) dX2_putMark_84 (by decide) (fun c75 => ?_) (fun c75 => ?_)
                  · skip
                    refine lv_iconst (v := nI 0) hx hb dX2_putMark_91 (by decide) ?_
                    refine vp_callSi (W.runS (As := [.int (nI (pm_tk ((S 4) j7))), .int (nI j3), .int (nI 0)]) (rest := [.int (nI j7), .ref (q 3)]) ⟨hx, hb, hml, hown, hts⟩ (k_X2_withEditor l (nI (pm_tk ((S 4) j7))) (nI j3) (nI 0)) (va_cwS 3 hts gX2_putMark_X2_withEditor rfl rfl rfl hd_X2_withEditor ⟨Nat.le_of_ble_eq_true rfl, Nat.le_of_ble_eq_true rfl⟩) ⟨pm_no_blind, pm_no_pre⟩ rfl rfl hl.1 rfl (lv_room (Nat.le_of_ble_eq_true rfl)) dX2_putMark_92 ⟨Nat.le_of_ble_eq_true rfl, Nat.le_of_ble_eq_true rfl⟩) (fun r76 h77 => ?_)
                    obtain rfl : r76 = pm_we (nI (pm_tk ((S 4) j7))) (nI j3) (nI 0) := h77
                    refine lv_topi (fun x78 e79 => ?_)
                    obtain rfl : x78 = nI (pm_tk (pm_sm (S 4 j7) j3 j9)) := e79.trans ((by have h9 := pm_wet (hI.okm j7 hj7) hj3 hj9; first | (rw [if_pos (by assumption)] at h9; exact h9) | (rw [if_neg (by assumption)] at h9; exact h9)))
                    refine kx_iast (ws' := pm_sh y q (pm_vn (S 9)) (pm_vn (S 0)) (pm_vt (updN (S 4) j7 (pm_sm (S 4 j7) j3 j9))) (pm_vc (S 4)) (pm_vn (S 1)) (pm_vn (S 2)) (pm_vi (S 3)) (pm_vn (S 5)) (pm_vn (S 6)) (pm_vn (S 7)) (pm_vn (S 8)) (pm_vn (S 11)) (nI (S 10 0)) (nI (S 10 1)) (nI (S 10 2))) hx hb hK hP hD hS 3 0 rfl rfl (by omega) (by decide) (pm_vt_u (S 4) j7 (pm_sm (S 4 j7) j3 j9)) rfl dX2_putMark_95 (fun H locs hP hD hS => ?_)
                    refine lv_aload_n hx hb dX2_putMark_96 rfl (lv_at hl 1 rfl) ?_
                    refine va_get (D := D) (ci := 2) (v := .ref (q 4)) (C := RX2) (T := TX2) (N := 15) hx hb hts hin2 hown hK hP 0 rfl rfl 3 (by decide) (hts (.fieldLink RX2 21 "ProofMarks$Sheet" "crosses" "[I") (List.mem_of_getElem? (i := 3) rfl)) (fun _ h9 => h9) rfl dX2_putMark_97 ?_
                    refine lv_iload_n hx hb dX2_putMark_100 rfl (lv_at hl 3 rfl) ?_
                    refine lv_aload_n hx hb dX2_putMark_101 rfl (lv_at hl 1 rfl) ?_
                    refine va_get (D := D) (ci := 2) (v := .ref (q 4)) (C := RX2) (T := TX2) (N := 15) hx hb hts hin2 hown hK hP 0 rfl rfl 3 (by decide) (hts (.fieldLink RX2 21 "ProofMarks$Sheet" "crosses" "[I") (List.mem_of_getElem? (i := 3) rfl)) (fun _ h9 => h9) rfl dX2_putMark_102 ?_
                    refine lv_iload_n hx hb dX2_putMark_105 rfl (lv_at hl 3 rfl) ?_
                    refine kx_iald (v := nI (pm_ck ((S 4) j7))) hx hb hK hP 4 0 rfl rfl (by omega) (by decide) rfl dX2_putMark_106 ?_
                    have := pm_ck8 ((S 4) j7)
                    refine lv_iload_n hx hb dX2_putMark_107 rfl (lv_at hl 2 rfl) ?_
                    refine lv_iload_n hx hb dX2_putMark_108 rfl (lv_at hl 4 rfl) ?_
                    refine lv_iconst (v := nI 2) hx hb dX2_putMark_109 (by decide) ?_
                    refine kx_icmp_ne (tgt := 117) hx hb (by omega) (by decide) dX2_putMark_110 (by decide) (fun c80 => ?_) (fun c80 => ?_)
                    · skip
                      refine lv_iconst (v := nI 0) hx hb dX2_putMark_117 (by decide) ?_
                      refine vp_callSi (W.runS (As := [.int (nI (pm_ck ((S 4) j7))), .int (nI j3), .int (nI 0)]) (rest := [.int (nI j7), .ref (q 4)]) ⟨hx, hb, hml, hown, hts⟩ (k_X2_withEditor l (nI (pm_ck ((S 4) j7))) (nI j3) (nI 0)) (va_cwS 3 hts gX2_putMark_X2_withEditor rfl rfl rfl hd_X2_withEditor ⟨Nat.le_of_ble_eq_true rfl, Nat.le_of_ble_eq_true rfl⟩) ⟨pm_no_blind, pm_no_pre⟩ rfl rfl hl.1 rfl (lv_room (Nat.le_of_ble_eq_true rfl)) dX2_putMark_118 ⟨Nat.le_of_ble_eq_true rfl, Nat.le_of_ble_eq_true rfl⟩) (fun r81 h82 => ?_)
                      obtain rfl : r81 = pm_we (nI (pm_ck ((S 4) j7))) (nI j3) (nI 0) := h82
                      refine lv_topi (fun x83 e84 => ?_)
                      obtain rfl : x83 = nI (pm_ck (pm_sm (S 4 j7) j3 j9)) := e84.trans ((by have h9 := pm_wec (hI.okm j7 hj7) hj3 hj9; first | (rw [if_pos (by assumption)] at h9; exact h9) | (rw [if_neg (by assumption)] at h9; exact h9)))
                      refine kx_iast (ws' := pm_sh y q (pm_vn (S 9)) (pm_vn (S 0)) (pm_vt (updN (S 4) j7 (pm_sm (S 4 j7) j3 j9))) (pm_vc (updN (S 4) j7 (pm_sm (S 4 j7) j3 j9))) (pm_vn (S 1)) (pm_vn (S 2)) (pm_vi (S 3)) (pm_vn (S 5)) (pm_vn (S 6)) (pm_vn (S 7)) (pm_vn (S 8)) (pm_vn (S 11)) (nI (S 10 0)) (nI (S 10 1)) (nI (S 10 2))) hx hb hK hP hD hS 4 0 rfl rfl (by omega) (by decide) (pm_vc_u (S 4) j7 (pm_sm (S 4 j7) j3 j9)) rfl dX2_putMark_121 (fun H locs hP hD hS => ?_)
                      refine lv_iload hx hb dX2_putMark_122 (lv_at hl 0 rfl) ?_
                      have E : pm_aMark S (nI j3) (nI j7) (nI j9) = (nI (pm_mk (S 4 j7) j3), pm_st S 4 j7 (pm_sm (S 4 j7) j3 j9)) := by simp only [pm_aMark, pm_ix_in hj3 (show (3 : Nat) < 2 ^ 31 by decide), pm_ix_in hj7 (show (30 : Nat) < 2 ^ 31 by decide), pm_ix_in hj9 (show (3 : Nat) < 2 ^ 31 by decide)] <;> ((repeat' split) <;> first | rfl | (exfalso; omega))
                      exact W.iret hx hb hr (fun t ht _ => ⟨⟨_, (), rfl, (by rw [E]), (by show va_P D vwCl (pm_shS y q (pm_aMark S (nI j3) (nI j7) (nI j9)).2) t.heap; rw [ht]; exact (by rw [E]; exact hP))⟩, hS.F ht⟩) hS.2.2 dX2_putMark_124
                    · skip
                      refine lv_iconst (v := nI 1) hx hb dX2_putMark_113 (by decide) ?_
                      refine lv_goto (tgt := 118) hx hb dX2_putMark_114 (by decide) ?_
                      refine vp_callSi (W.runS (As := [.int (nI (pm_ck ((S 4) j7))), .int (nI j3), .int (nI 1)]) (rest := [.int (nI j7), .ref (q 4)]) ⟨hx, hb, hml, hown, hts⟩ (k_X2_withEditor l (nI (pm_ck ((S 4) j7))) (nI j3) (nI 1)) (va_cwS 3 hts gX2_putMark_X2_withEditor rfl rfl rfl hd_X2_withEditor ⟨Nat.le_of_ble_eq_true rfl, Nat.le_of_ble_eq_true rfl⟩) ⟨pm_no_blind, pm_no_pre⟩ rfl rfl hl.1 rfl (lv_room (Nat.le_of_ble_eq_true rfl)) dX2_putMark_118 ⟨Nat.le_of_ble_eq_true rfl, Nat.le_of_ble_eq_true rfl⟩) (fun r85 h86 => ?_)
                      obtain rfl : r85 = pm_we (nI (pm_ck ((S 4) j7))) (nI j3) (nI 1) := h86
                      refine lv_topi (fun x87 e88 => ?_)
                      obtain rfl : x87 = nI (pm_ck (pm_sm (S 4 j7) j3 j9)) := e88.trans ((by have h9 := pm_wec (hI.okm j7 hj7) hj3 hj9; first | (rw [if_pos (by assumption)] at h9; exact h9) | (rw [if_neg (by assumption)] at h9; exact h9)))
                      refine kx_iast (ws' := pm_sh y q (pm_vn (S 9)) (pm_vn (S 0)) (pm_vt (updN (S 4) j7 (pm_sm (S 4 j7) j3 j9))) (pm_vc (updN (S 4) j7 (pm_sm (S 4 j7) j3 j9))) (pm_vn (S 1)) (pm_vn (S 2)) (pm_vi (S 3)) (pm_vn (S 5)) (pm_vn (S 6)) (pm_vn (S 7)) (pm_vn (S 8)) (pm_vn (S 11)) (nI (S 10 0)) (nI (S 10 1)) (nI (S 10 2))) hx hb hK hP hD hS 4 0 rfl rfl (by omega) (by decide) (pm_vc_u (S 4) j7 (pm_sm (S 4 j7) j3 j9)) rfl dX2_putMark_121 (fun H locs hP hD hS => ?_)
                      refine lv_iload hx hb dX2_putMark_122 (lv_at hl 0 rfl) ?_
                      have E : pm_aMark S (nI j3) (nI j7) (nI j9) = (nI (pm_mk (S 4 j7) j3), pm_st S 4 j7 (pm_sm (S 4 j7) j3 j9)) := by simp only [pm_aMark, pm_ix_in hj3 (show (3 : Nat) < 2 ^ 31 by decide), pm_ix_in hj7 (show (30 : Nat) < 2 ^ 31 by decide), pm_ix_in hj9 (show (3 : Nat) < 2 ^ 31 by decide)] <;> ((repeat' split) <;> first | rfl | (exfalso; omega))
                      exact W.iret hx hb hr (fun t ht _ => ⟨⟨_, (), rfl, (by rw [E]), (by show va_P D vwCl (pm_shS y q (pm_aMark S (nI j3) (nI j7) (nI j9)).2) t.heap; rw [ht]; exact (by rw [E]; exact hP))⟩, hS.F ht⟩) hS.2.2 dX2_putMark_124
                  · skip
                    refine lv_iconst (v := nI 1) hx hb dX2_putMark_87 (by decide) ?_
                    refine lv_goto (tgt := 92) hx hb dX2_putMark_88 (by decide) ?_
                    refine vp_callSi (W.runS (As := [.int (nI (pm_tk ((S 4) j7))), .int (nI j3), .int (nI 1)]) (rest := [.int (nI j7), .ref (q 3)]) ⟨hx, hb, hml, hown, hts⟩ (k_X2_withEditor l (nI (pm_tk ((S 4) j7))) (nI j3) (nI 1)) (va_cwS 3 hts gX2_putMark_X2_withEditor rfl rfl rfl hd_X2_withEditor ⟨Nat.le_of_ble_eq_true rfl, Nat.le_of_ble_eq_true rfl⟩) ⟨pm_no_blind, pm_no_pre⟩ rfl rfl hl.1 rfl (lv_room (Nat.le_of_ble_eq_true rfl)) dX2_putMark_92 ⟨Nat.le_of_ble_eq_true rfl, Nat.le_of_ble_eq_true rfl⟩) (fun r89 h90 => ?_)
                    obtain rfl : r89 = pm_we (nI (pm_tk ((S 4) j7))) (nI j3) (nI 1) := h90
                    refine lv_topi (fun x91 e92 => ?_)
                    obtain rfl : x91 = nI (pm_tk (pm_sm (S 4 j7) j3 j9)) := e92.trans ((by have h9 := pm_wet (hI.okm j7 hj7) hj3 hj9; first | (rw [if_pos (by assumption)] at h9; exact h9) | (rw [if_neg (by assumption)] at h9; exact h9)))
                    refine kx_iast (ws' := pm_sh y q (pm_vn (S 9)) (pm_vn (S 0)) (pm_vt (updN (S 4) j7 (pm_sm (S 4 j7) j3 j9))) (pm_vc (S 4)) (pm_vn (S 1)) (pm_vn (S 2)) (pm_vi (S 3)) (pm_vn (S 5)) (pm_vn (S 6)) (pm_vn (S 7)) (pm_vn (S 8)) (pm_vn (S 11)) (nI (S 10 0)) (nI (S 10 1)) (nI (S 10 2))) hx hb hK hP hD hS 3 0 rfl rfl (by omega) (by decide) (pm_vt_u (S 4) j7 (pm_sm (S 4 j7) j3 j9)) rfl dX2_putMark_95 (fun H locs hP hD hS => ?_)
                    refine lv_aload_n hx hb dX2_putMark_96 rfl (lv_at hl 1 rfl) ?_
                    refine va_get (D := D) (ci := 2) (v := .ref (q 4)) (C := RX2) (T := TX2) (N := 15) hx hb hts hin2 hown hK hP 0 rfl rfl 3 (by decide) (hts (.fieldLink RX2 21 "ProofMarks$Sheet" "crosses" "[I") (List.mem_of_getElem? (i := 3) rfl)) (fun _ h9 => h9) rfl dX2_putMark_97 ?_
                    refine lv_iload_n hx hb dX2_putMark_100 rfl (lv_at hl 3 rfl) ?_
                    refine lv_aload_n hx hb dX2_putMark_101 rfl (lv_at hl 1 rfl) ?_
                    refine va_get (D := D) (ci := 2) (v := .ref (q 4)) (C := RX2) (T := TX2) (N := 15) hx hb hts hin2 hown hK hP 0 rfl rfl 3 (by decide) (hts (.fieldLink RX2 21 "ProofMarks$Sheet" "crosses" "[I") (List.mem_of_getElem? (i := 3) rfl)) (fun _ h9 => h9) rfl dX2_putMark_102 ?_
                    refine lv_iload_n hx hb dX2_putMark_105 rfl (lv_at hl 3 rfl) ?_
                    refine kx_iald (v := nI (pm_ck ((S 4) j7))) hx hb hK hP 4 0 rfl rfl (by omega) (by decide) rfl dX2_putMark_106 ?_
                    have := pm_ck8 ((S 4) j7)
                    refine lv_iload_n hx hb dX2_putMark_107 rfl (lv_at hl 2 rfl) ?_
                    refine lv_iload_n hx hb dX2_putMark_108 rfl (lv_at hl 4 rfl) ?_
                    refine lv_iconst (v := nI 2) hx hb dX2_putMark_109 (by decide) ?_
                    refine kx_icmp_ne (tgt := 117) hx hb (by omega) (by decide) dX2_putMark_110 (by decide) (fun c93 => ?_) (fun c93 => ?_)
                    · skip
                      refine lv_iconst (v := nI 0) hx hb dX2_putMark_117 (by decide) ?_
                      refine vp_callSi (W.runS (As := [.int (nI (pm_ck ((S 4) j7))), .int (nI j3), .int (nI 0)]) (rest := [.int (nI j7), .ref (q 4)]) ⟨hx, hb, hml, hown, hts⟩ (k_X2_withEditor l (nI (pm_ck ((S 4) j7))) (nI j3) (nI 0)) (va_cwS 3 hts gX2_putMark_X2_withEditor rfl rfl rfl hd_X2_withEditor ⟨Nat.le_of_ble_eq_true rfl, Nat.le_of_ble_eq_true rfl⟩) ⟨pm_no_blind, pm_no_pre⟩ rfl rfl hl.1 rfl (lv_room (Nat.le_of_ble_eq_true rfl)) dX2_putMark_118 ⟨Nat.le_of_ble_eq_true rfl, Nat.le_of_ble_eq_true rfl⟩) (fun r94 h95 => ?_)
                      obtain rfl : r94 = pm_we (nI (pm_ck ((S 4) j7))) (nI j3) (nI 0) := h95
                      refine lv_topi (fun x96 e97 => ?_)
                      obtain rfl : x96 = nI (pm_ck (pm_sm (S 4 j7) j3 j9)) := e97.trans ((by have h9 := pm_wec (hI.okm j7 hj7) hj3 hj9; first | (rw [if_pos (by assumption)] at h9; exact h9) | (rw [if_neg (by assumption)] at h9; exact h9)))
                      refine kx_iast (ws' := pm_sh y q (pm_vn (S 9)) (pm_vn (S 0)) (pm_vt (updN (S 4) j7 (pm_sm (S 4 j7) j3 j9))) (pm_vc (updN (S 4) j7 (pm_sm (S 4 j7) j3 j9))) (pm_vn (S 1)) (pm_vn (S 2)) (pm_vi (S 3)) (pm_vn (S 5)) (pm_vn (S 6)) (pm_vn (S 7)) (pm_vn (S 8)) (pm_vn (S 11)) (nI (S 10 0)) (nI (S 10 1)) (nI (S 10 2))) hx hb hK hP hD hS 4 0 rfl rfl (by omega) (by decide) (pm_vc_u (S 4) j7 (pm_sm (S 4 j7) j3 j9)) rfl dX2_putMark_121 (fun H locs hP hD hS => ?_)
                      refine lv_iload hx hb dX2_putMark_122 (lv_at hl 0 rfl) ?_
                      have E : pm_aMark S (nI j3) (nI j7) (nI j9) = (nI (pm_mk (S 4 j7) j3), pm_st S 4 j7 (pm_sm (S 4 j7) j3 j9)) := by simp only [pm_aMark, pm_ix_in hj3 (show (3 : Nat) < 2 ^ 31 by decide), pm_ix_in hj7 (show (30 : Nat) < 2 ^ 31 by decide), pm_ix_in hj9 (show (3 : Nat) < 2 ^ 31 by decide)] <;> ((repeat' split) <;> first | rfl | (exfalso; omega))
                      exact W.iret hx hb hr (fun t ht _ => ⟨⟨_, (), rfl, (by rw [E]), (by show va_P D vwCl (pm_shS y q (pm_aMark S (nI j3) (nI j7) (nI j9)).2) t.heap; rw [ht]; exact (by rw [E]; exact hP))⟩, hS.F ht⟩) hS.2.2 dX2_putMark_124
                    · skip
                      refine lv_iconst (v := nI 1) hx hb dX2_putMark_113 (by decide) ?_
                      refine lv_goto (tgt := 118) hx hb dX2_putMark_114 (by decide) ?_
                      refine vp_callSi (W.runS (As := [.int (nI (pm_ck ((S 4) j7))), .int (nI j3), .int (nI 1)]) (rest := [.int (nI j7), .ref (q 4)]) ⟨hx, hb, hml, hown, hts⟩ (k_X2_withEditor l (nI (pm_ck ((S 4) j7))) (nI j3) (nI 1)) (va_cwS 3 hts gX2_putMark_X2_withEditor rfl rfl rfl hd_X2_withEditor ⟨Nat.le_of_ble_eq_true rfl, Nat.le_of_ble_eq_true rfl⟩) ⟨pm_no_blind, pm_no_pre⟩ rfl rfl hl.1 rfl (lv_room (Nat.le_of_ble_eq_true rfl)) dX2_putMark_118 ⟨Nat.le_of_ble_eq_true rfl, Nat.le_of_ble_eq_true rfl⟩) (fun r98 h99 => ?_)
                      obtain rfl : r98 = pm_we (nI (pm_ck ((S 4) j7))) (nI j3) (nI 1) := h99
                      refine lv_topi (fun x100 e101 => ?_)
                      obtain rfl : x100 = nI (pm_ck (pm_sm (S 4 j7) j3 j9)) := e101.trans ((by have h9 := pm_wec (hI.okm j7 hj7) hj3 hj9; first | (rw [if_pos (by assumption)] at h9; exact h9) | (rw [if_neg (by assumption)] at h9; exact h9)))
                      refine kx_iast (ws' := pm_sh y q (pm_vn (S 9)) (pm_vn (S 0)) (pm_vt (updN (S 4) j7 (pm_sm (S 4 j7) j3 j9))) (pm_vc (updN (S 4) j7 (pm_sm (S 4 j7) j3 j9))) (pm_vn (S 1)) (pm_vn (S 2)) (pm_vi (S 3)) (pm_vn (S 5)) (pm_vn (S 6)) (pm_vn (S 7)) (pm_vn (S 8)) (pm_vn (S 11)) (nI (S 10 0)) (nI (S 10 1)) (nI (S 10 2))) hx hb hK hP hD hS 4 0 rfl rfl (by omega) (by decide) (pm_vc_u (S 4) j7 (pm_sm (S 4 j7) j3 j9)) rfl dX2_putMark_121 (fun H locs hP hD hS => ?_)
                      refine lv_iload hx hb dX2_putMark_122 (lv_at hl 0 rfl) ?_
                      have E : pm_aMark S (nI j3) (nI j7) (nI j9) = (nI (pm_mk (S 4 j7) j3), pm_st S 4 j7 (pm_sm (S 4 j7) j3 j9)) := by simp only [pm_aMark, pm_ix_in hj3 (show (3 : Nat) < 2 ^ 31 by decide), pm_ix_in hj7 (show (30 : Nat) < 2 ^ 31 by decide), pm_ix_in hj9 (show (3 : Nat) < 2 ^ 31 by decide)] <;> ((repeat' split) <;> first | rfl | (exfalso; omega))
                      exact W.iret hx hb hr (fun t ht _ => ⟨⟨_, (), rfl, (by rw [E]), (by show va_P D vwCl (pm_shS y q (pm_aMark S (nI j3) (nI j7) (nI j9)).2) t.heap; rw [ht]; exact (by rw [E]; exact hP))⟩, hS.F ht⟩) hS.2.2 dX2_putMark_124
                · skip
                  refine lv_bipush (v := (-4)) hx hb dX2_putMark_67 (by decide) ?_
                  have E : pm_aMark S (nI j3) (nI j7) (nI j9) = ((-4), S) := by simp only [pm_aMark, pm_ix_in hj3 (show (3 : Nat) < 2 ^ 31 by decide), pm_ix_in hj7 (show (30 : Nat) < 2 ^ 31 by decide), pm_ix_in hj9 (show (3 : Nat) < 2 ^ 31 by decide)] <;> ((repeat' split) <;> first | rfl | (exfalso; omega))
                  exact W.iret hx hb hr (fun t ht _ => ⟨⟨_, (), rfl, (by rw [E]), (by show va_P D vwCl (pm_shS y q (pm_aMark S (nI j3) (nI j7) (nI j9)).2) t.heap; rw [ht]; exact (by rw [E]; exact hP))⟩, hS.F ht⟩) hS.2.2 dX2_putMark_69
          · skip
            refine lv_bipush (v := (-5)) hx hb dX2_putMark_37 (by decide) ?_
            have E : pm_aMark S (nI j3) (nI j7) (nI j9) = ((-5), S) := by simp only [pm_aMark, pm_ix_in hj3 (show (3 : Nat) < 2 ^ 31 by decide), pm_ix_in hj7 (show (30 : Nat) < 2 ^ 31 by decide), pm_ix_in hj9 (show (3 : Nat) < 2 ^ 31 by decide)] <;> ((repeat' split) <;> first | rfl | (exfalso; omega))
            exact W.iret hx hb hr (fun t ht _ => ⟨⟨_, (), rfl, (by rw [E]), (by show va_P D vwCl (pm_shS y q (pm_aMark S (nI j3) (nI j7) (nI j9)).2) t.heap; rw [ht]; exact (by rw [E]; exact hP))⟩, hS.F ht⟩) hS.2.2 dX2_putMark_39
        · skip
          refine lv_bipush (v := (-2)) hx hb dX2_putMark_25 (by decide) ?_
          have E : pm_aMark S (nI j3) (nI j7) (nI j9) = ((-2), S) := by simp only [pm_aMark, pm_ix_in hj3 (show (3 : Nat) < 2 ^ 31 by decide), pm_ix_in hj7 (show (30 : Nat) < 2 ^ 31 by decide), pm_ix_in hj9 (show (3 : Nat) < 2 ^ 31 by decide)] <;> ((repeat' split) <;> first | rfl | (exfalso; omega))
          exact W.iret hx hb hr (fun t ht _ => ⟨⟨_, (), rfl, (by rw [E]), (by show va_P D vwCl (pm_shS y q (pm_aMark S (nI j3) (nI j7) (nI j9)).2) t.heap; rw [ht]; exact (by rw [E]; exact hP))⟩, hS.F ht⟩) hS.2.2 dX2_putMark_27
    · skip
      refine lv_if_ne (tgt := 16) hx hb dX2_putMark_11 (by decide) (fun c102 => (c102 (by decide)).elim) (fun _ => ?_)
      refine lv_iconst (v := -1) hx hb dX2_putMark_14 (by decide) ?_
      have E : pm_aMark S (nI j3) xf xm = (-1, S) := by simp only [pm_aMark, pm_ix_in hj3 (show (3 : Nat) < 2 ^ 31 by decide), pm_ix_out hnj7] <;> ((repeat' split) <;> first | rfl | (exfalso; omega))
      exact W.iret hx hb hr (fun t ht _ => ⟨⟨_, (), rfl, (by rw [E]), (by show va_P D vwCl (pm_shS y q (pm_aMark S (nI j3) xf xm).2) t.heap; rw [ht]; exact (by rw [E]; exact hP))⟩, hS.F ht⟩) hS.2.2 dX2_putMark_15
  · skip
    refine lv_if_eq (tgt := 14) hx hb dX2_putMark_4 (by decide) (fun _ => ?_) (fun c103 => (c103 (by decide)).elim)
    refine lv_iconst (v := -1) hx hb dX2_putMark_14 (by decide) ?_
    have E : pm_aMark S xe xf xm = (-1, S) := by simp only [pm_aMark, pm_ix_out hnj3] <;> ((repeat' split) <;> first | rfl | (exfalso; omega))
    exact W.iret hx hb hr (fun t ht _ => ⟨⟨_, (), rfl, (by rw [E]), (by show va_P D vwCl (pm_shS y q (pm_aMark S xe xf xm).2) t.heap; rw [ht]; exact (by rw [E]; exact hP))⟩, hS.F ht⟩) hS.2.2 dX2_putMark_15

set_option maxHeartbeats 4000000 in
set_option maxRecDepth 100000 in
theorem k_X2_printFrame (l : Launch) (D : va_G) (y : Nat → ClassId) (q : Nat → Nat) (S : Nat → Nat → Nat) (xf xz : Int32) (hI : pm_Inv S) : Met l yX2_printFrame wsX2_printFrame ({ frames := 1, cells := 0, slots := 0, locals := 20 } : Room) (pm_wr D (pm_ty y) [.ref (q 0), .int xf, .int xz] (pm_shS y q S)) (pm_Qi D (fun (r : Int32) (_ : Unit) => r = (pm_aPrint S xf xz).1) (fun (_ : Unit) => pm_shS y q (pm_aPrint S xf xz).2) (pm_shS y q S)) 0 0 (pm_ad (pm_shS y q S)) := by
  refine Met.ofW (cc := cX2_printFrame) (maxL := 4) (ret := (some .int)) (by decide) rfl ?_
  intro p e s m args below meth c s₁ B hml hpre
  obtain ⟨rfl, hP, hK, hD0⟩ := hpre
  have hx := B.exec
  have hb := B.bytes
  have hr := B.returns
  have hts := atoms_spec (ws := wsX2_printFrame) B.pre
  have hown : s.vm.findClass RX2 = some m.cls := findClass_of_methodNamed B.named
  have hlocks := B.notSynchronized
  have hin2 : ∀ w ∈ u_ws RX2 TX2 15, w ∈ wsX2_printFrame := fun w h => List.mem_cons_of_mem _ (List.mem_append_right _ h)
  have hD := pm_ad_self hD0
  have hS : va_S (pm_ad (pm_shS y q S)) s.heap s.heap [] := va_S.rf
  have hP : va_P D vwCl (pm_shS y q S) s.heap := hP
  have hl := lv_entry ([.ref (q 0), .int xf, .int xz]) (n := 4) (Nat.le_of_ble_eq_true rfl)
  rw [lg_entry_eq]
  generalize (lg_sl ([.ref (q 0), .int xf, .int xz]) ++ List.replicate (4 - (lg_sl ([.ref (q 0), .int xf, .int xz])).length) Slot.unset).toArray = ls at hl ⊢
  have hl : lv_has ls 4 [(0, .ref (q 0)), (1, .int xf), (2, .int xz)] := hl
  refine lv_iload_n hx hb dX2_printFrame_0 rfl (lv_at hl 1 rfl) ?_
  refine vp_callSi (W.runS (As := [.int xf]) (rest := []) ⟨hx, hb, hml, hown, hts⟩ (k_X2_isFrame l xf) (va_cwS 1 hts gX2_printFrame_X2_isFrame rfl rfl rfl hd_X2_isFrame ⟨Nat.le_of_ble_eq_true rfl, Nat.le_of_ble_eq_true rfl⟩) ⟨pm_no_blind, pm_no_pre⟩ rfl rfl hl.1 rfl (lv_room (Nat.le_of_ble_eq_true rfl)) dX2_printFrame_1 ⟨Nat.le_of_ble_eq_true rfl, Nat.le_of_ble_eq_true rfl⟩) (fun r1 h2 => ?_)
  rcases h2 with ⟨j3, hj3, ej3, rfl⟩ | ⟨hnj3, rfl⟩
  · subst ej3
    refine lv_if_ne (tgt := 9) hx hb dX2_printFrame_4 (by decide) (fun _ => ?_) (fun c4 => absurd c4 (by decide))
    rcases pm_cases xz (n := 4) (by decide) with hnj5 | ⟨j5, hj5, rfl⟩
    · skip
      refine lv_iload_n hx hb dX2_printFrame_9 rfl (lv_at hl 2 rfl) ?_
      refine lv_iconst (v := nI 1) hx hb dX2_printFrame_10 (by decide) ?_
      refine lv_icmp_lt (tgt := 19) hx hb dX2_printFrame_11 (by decide) (fun c6 => ?_) (fun c6 => ?_)
      · skip
        refine lv_bipush (v := (-2)) hx hb dX2_printFrame_19 (by decide) ?_
        have E : pm_aPrint S (nI j3) xz = ((-2), S) := by simp only [pm_aPrint, pm_ix_in hj3 (show (30 : Nat) < 2 ^ 31 by decide), pm_ix_out hnj5] <;> ((repeat' split) <;> first | rfl | (exfalso; omega))
        exact W.iret hx hb hr (fun t ht _ => ⟨⟨_, (), rfl, (by rw [E]), (by show va_P D vwCl (pm_shS y q (pm_aPrint S (nI j3) xz).2) t.heap; rw [ht]; exact (by rw [E]; exact hP))⟩, hS.F ht⟩) hS.2.2 dX2_printFrame_21
      · skip
        refine lv_iload_n hx hb dX2_printFrame_14 rfl (lv_at hl 2 rfl) ?_
        refine lv_iconst (v := nI 3) hx hb dX2_printFrame_15 (by decide) ?_
        refine lv_icmp_le (tgt := 22) hx hb dX2_printFrame_16 (by decide) (fun c7 => by exfalso; exact pm_lead1 (n := 3) hnj5 (by decide) (by assumption) (by assumption)) (fun c7 => ?_)
        refine lv_bipush (v := (-2)) hx hb dX2_printFrame_19 (by decide) ?_
        have E : pm_aPrint S (nI j3) xz = ((-2), S) := by simp only [pm_aPrint, pm_ix_in hj3 (show (30 : Nat) < 2 ^ 31 by decide), pm_ix_out hnj5] <;> ((repeat' split) <;> first | rfl | (exfalso; omega))
        exact W.iret hx hb hr (fun t ht _ => ⟨⟨_, (), rfl, (by rw [E]), (by show va_P D vwCl (pm_shS y q (pm_aPrint S (nI j3) xz).2) t.heap; rw [ht]; exact (by rw [E]; exact hP))⟩, hS.F ht⟩) hS.2.2 dX2_printFrame_21
    · skip
      refine lv_iload_n hx hb dX2_printFrame_9 rfl (lv_at hl 2 rfl) ?_
      refine lv_iconst (v := nI 1) hx hb dX2_printFrame_10 (by decide) ?_
      refine kx_icmp_lt (tgt := 19) hx hb (by omega) (by decide) dX2_printFrame_11 (by decide) (fun c8 => ?_) (fun c8 => ?_)
      · skip
        refine lv_bipush (v := (-2)) hx hb dX2_printFrame_19 (by decide) ?_
        have E : pm_aPrint S (nI j3) (nI j5) = ((-2), S) := by simp only [pm_aPrint, pm_ix_in hj3 (show (30 : Nat) < 2 ^ 31 by decide), pm_ix_in hj5 (show (4 : Nat) < 2 ^ 31 by decide)] <;> ((repeat' split) <;> first | rfl | (exfalso; omega))
        exact W.iret hx hb hr (fun t ht _ => ⟨⟨_, (), rfl, (by rw [E]), (by show va_P D vwCl (pm_shS y q (pm_aPrint S (nI j3) (nI j5)).2) t.heap; rw [ht]; exact (by rw [E]; exact hP))⟩, hS.F ht⟩) hS.2.2 dX2_printFrame_21
      · skip
        refine lv_iload_n hx hb dX2_printFrame_14 rfl (lv_at hl 2 rfl) ?_
        refine lv_iconst (v := nI 3) hx hb dX2_printFrame_15 (by decide) ?_
        refine kx_icmp_le (tgt := 22) hx hb (by omega) (by decide) dX2_printFrame_16 (by decide) (fun c9 => ?_) (fun c9 => ?_)
        · skip
          refine lv_iload_n hx hb dX2_printFrame_22 rfl (lv_at hl 2 rfl) ?_
          refine vp_callSi (W.runS (As := [.int (nI j5)]) (rest := []) ⟨hx, hb, hml, hown, hts⟩ (k_X2_paperOf l j5) (va_cwS 1 hts gX2_printFrame_X2_paperOf rfl rfl rfl hd_X2_paperOf ⟨Nat.le_of_ble_eq_true rfl, Nat.le_of_ble_eq_true rfl⟩) ⟨pm_no_blind, pm_no_pre⟩ rfl rfl hl.1 rfl (lv_room (Nat.le_of_ble_eq_true rfl)) dX2_printFrame_23 ⟨Nat.le_of_ble_eq_true rfl, Nat.le_of_ble_eq_true rfl⟩) (fun r10 h11 => ?_)
          obtain rfl : r10 = nI (10 * j5 * j5) := h11
          have hz90 : 10 * j5 * j5 ≤ 90 := by rcases (show j5 = 0 ∨ j5 = 1 ∨ j5 = 2 ∨ j5 = 3 by omega) with h | h | h | h <;> rw [h] <;> decide
          refine lv_istore_n (lv' := [(3, .int (nI (10 * j5 * j5))), (0, .ref (q 0)), (1, .int (nI j3)), (2, .int (nI j5))]) hx hb dX2_printFrame_26 rfl hl (by decide) rfl (fun ls hl => ?_)
          refine lv_aload_n hx hb dX2_printFrame_27 rfl (lv_at hl 1 rfl) ?_
          refine va_get (D := D) (ci := 2) (v := .ref (q 2)) (C := RX2) (T := TX2) (N := 15) hx hb hts hin2 hown hK hP 0 rfl rfl 1 (by decide) (hts (.fieldLink RX2 15 "ProofMarks$Sheet" "how" "[I") (List.mem_of_getElem? (i := 1) rfl)) (fun _ h9 => h9) rfl dX2_printFrame_28 ?_
          refine lv_iload_n hx hb dX2_printFrame_31 rfl (lv_at hl 2 rfl) ?_
          refine kx_iald (v := nI ((S 0) j3)) hx hb hK hP 2 0 rfl rfl (by omega) (by decide) rfl dX2_printFrame_32 ?_
          have := hI.how j3 (by omega)
          refine lv_iconst (v := nI 1) hx hb dX2_printFrame_33 (by decide) ?_
          refine kx_icmp_ne (tgt := 55) hx hb (by omega) (by decide) dX2_printFrame_34 (by decide) (fun c12 => ?_) (fun c12 => ?_)
          · skip
            refine lv_bipush (v := (-5)) hx hb dX2_printFrame_55 (by decide) ?_
            have E : pm_aPrint S (nI j3) (nI j5) = ((-5), S) := by simp only [pm_aPrint, pm_ix_in hj3 (show (30 : Nat) < 2 ^ 31 by decide), pm_ix_in hj5 (show (4 : Nat) < 2 ^ 31 by decide)] <;> ((repeat' split) <;> first | rfl | (exfalso; omega))
            exact W.iret hx hb hr (fun t ht _ => ⟨⟨_, (), rfl, (by rw [E]), (by show va_P D vwCl (pm_shS y q (pm_aPrint S (nI j3) (nI j5)).2) t.heap; rw [ht]; exact (by rw [E]; exact hP))⟩, hS.F ht⟩) hS.2.2 dX2_printFrame_57
          · skip
            refine lv_iload_n hx hb dX2_printFrame_37 rfl (lv_at hl 3 rfl) ?_
            refine lv_aload_n hx hb dX2_printFrame_38 rfl (lv_at hl 1 rfl) ?_
            refine va_get (D := D) (ci := 2) (v := .ref (q 6)) (C := RX2) (T := TX2) (N := 15) hx hb hts hin2 hown hK hP 0 rfl rfl 5 (by decide) (hts (.fieldLink RX2 27 "ProofMarks$Sheet" "sizes" "[I") (List.mem_of_getElem? (i := 2) rfl)) (fun _ h9 => h9) rfl dX2_printFrame_39 ?_
            refine lv_iload_n hx hb dX2_printFrame_42 rfl (lv_at hl 2 rfl) ?_
            refine kx_iald (v := nI ((S 2) j3)) hx hb hK hP 6 0 rfl rfl (by omega) (by decide) rfl dX2_printFrame_43 ?_
            have := hI.size j3 (by omega)
            refine kx_icmp_gt (tgt := 55) hx hb (by omega) (by omega) dX2_printFrame_44 (by decide) (fun c13 => ?_) (fun c13 => ?_)
            · skip
              refine lv_bipush (v := (-5)) hx hb dX2_printFrame_55 (by decide) ?_
              have E : pm_aPrint S (nI j3) (nI j5) = ((-5), S) := by simp only [pm_aPrint, pm_ix_in hj3 (show (30 : Nat) < 2 ^ 31 by decide), pm_ix_in hj5 (show (4 : Nat) < 2 ^ 31 by decide)] <;> ((repeat' split) <;> first | rfl | (exfalso; omega))
              exact W.iret hx hb hr (fun t ht _ => ⟨⟨_, (), rfl, (by rw [E]), (by show va_P D vwCl (pm_shS y q (pm_aPrint S (nI j3) (nI j5)).2) t.heap; rw [ht]; exact (by rw [E]; exact hP))⟩, hS.F ht⟩) hS.2.2 dX2_printFrame_57
            · skip
              refine lv_iload_n hx hb dX2_printFrame_47 rfl (lv_at hl 0 rfl) ?_
              refine lv_aload_n hx hb dX2_printFrame_48 rfl (lv_at hl 1 rfl) ?_
              refine va_get (D := D) (ci := 2) (v := .int (nI (S 10 1))) (C := RX2) (T := TX2) (N := 15) hx hb hts hin2 hown hK hP 0 rfl rfl 13 (by decide) (hts (.fieldLink RX2 52 "ProofMarks$Sheet" "paper" "I") (List.mem_of_getElem? (i := 3) rfl)) (fun _ h9 => h9) rfl dX2_printFrame_49 ?_
              have := hI.pap
              refine kx_icmp_le (tgt := 58) hx hb (by omega) (by omega) dX2_printFrame_52 (by decide) (fun c14 => ?_) (fun c14 => ?_)
              · skip
                refine lv_aload_n hx hb dX2_printFrame_58 rfl (lv_at hl 1 rfl) ?_
                refine va_get (D := D) (ci := 2) (v := .ref (q 2)) (C := RX2) (T := TX2) (N := 15) hx hb hts hin2 hown hK hP 0 rfl rfl 1 (by decide) (hts (.fieldLink RX2 15 "ProofMarks$Sheet" "how" "[I") (List.mem_of_getElem? (i := 1) rfl)) (fun _ h9 => h9) rfl dX2_printFrame_59 ?_
                refine lv_iload_n hx hb dX2_printFrame_62 rfl (lv_at hl 2 rfl) ?_
                refine lv_iconst (v := nI 3) hx hb dX2_printFrame_63 (by decide) ?_
                refine kx_iast (ws' := pm_sh y q (pm_vn (S 9)) (pm_vn (updN (S 0) j3 3)) (pm_vt (S 4)) (pm_vc (S 4)) (pm_vn (S 1)) (pm_vn (S 2)) (pm_vi (S 3)) (pm_vn (S 5)) (pm_vn (S 6)) (pm_vn (S 7)) (pm_vn (S 8)) (pm_vn (S 11)) (nI (S 10 0)) (nI (S 10 1)) (nI (S 10 2))) hx hb hK hP hD hS 2 0 rfl rfl (by omega) (by decide) (pm_vn_u (S 0) j3 3) rfl dX2_printFrame_64 (fun H locs hP hD hS => ?_)
                refine lv_aload_n hx hb dX2_printFrame_65 rfl (lv_at hl 1 rfl) ?_
                refine va_get (D := D) (ci := 2) (v := .ref (q 6)) (C := RX2) (T := TX2) (N := 15) hx hb hts hin2 hown hK hP 0 rfl rfl 5 (by decide) (hts (.fieldLink RX2 27 "ProofMarks$Sheet" "sizes" "[I") (List.mem_of_getElem? (i := 2) rfl)) (fun _ h9 => h9) rfl dX2_printFrame_66 ?_
                refine lv_iload_n hx hb dX2_printFrame_69 rfl (lv_at hl 2 rfl) ?_
                refine lv_iload_n hx hb dX2_printFrame_70 rfl (lv_at hl 3 rfl) ?_
                refine kx_iast (ws' := pm_sh y q (pm_vn (S 9)) (pm_vn (updN (S 0) j3 3)) (pm_vt (S 4)) (pm_vc (S 4)) (pm_vn (S 1)) (pm_vn (updN (S 2) j3 j5)) (pm_vi (S 3)) (pm_vn (S 5)) (pm_vn (S 6)) (pm_vn (S 7)) (pm_vn (S 8)) (pm_vn (S 11)) (nI (S 10 0)) (nI (S 10 1)) (nI (S 10 2))) hx hb hK hP hD hS 6 0 rfl rfl (by omega) (by decide) (pm_vn_u (S 2) j3 j5) rfl dX2_printFrame_71 (fun H locs hP hD hS => ?_)
                refine lv_aload_n hx hb dX2_printFrame_72 rfl (lv_at hl 1 rfl) ?_
                refine va_get (D := D) (ci := 2) (v := .ref (q 12)) (C := RX2) (T := TX2) (N := 15) hx hb hts hin2 hown hK hP 0 rfl rfl 11 (by decide) (hts (.fieldLink RX2 45 "ProofMarks$Sheet" "prints" "[I") (List.mem_of_getElem? (i := 4) rfl)) (fun _ h9 => h9) rfl dX2_printFrame_73 ?_
                refine lv_iload_n hx hb dX2_printFrame_76 rfl (lv_at hl 3 rfl) ?_
                refine lv_dup2_11 hx hb dX2_printFrame_77 rfl rfl ?_
                refine kx_iald (v := nI ((S 11) j5)) hx hb hK hP 12 0 rfl rfl (by omega) (by decide) rfl dX2_printFrame_78 ?_
                refine lv_iconst (v := nI 1) hx hb dX2_printFrame_79 (by decide) ?_
                refine kx_iadd hx hb dX2_printFrame_80 ?_
                refine kx_iast (ws' := pm_sh y q (pm_vn (S 9)) (pm_vn (updN (S 0) j3 3)) (pm_vt (S 4)) (pm_vc (S 4)) (pm_vn (S 1)) (pm_vn (updN (S 2) j3 j5)) (pm_vi (S 3)) (pm_vn (S 5)) (pm_vn (S 6)) (pm_vn (S 7)) (pm_vn (S 8)) (pm_vn (updN (S 11) j5 (((S 11) j5) + 1))) (nI (S 10 0)) (nI (S 10 1)) (nI (S 10 2))) hx hb hK hP hD hS 12 0 rfl rfl (by omega) (by decide) (pm_vn_u (S 11) j5 (((S 11) j5) + 1)) rfl dX2_printFrame_81 (fun H locs hP hD hS => ?_)
                refine lv_aload_n hx hb dX2_printFrame_82 rfl (lv_at hl 1 rfl) ?_
                refine lv_dup hx hb dX2_printFrame_83 rfl ?_
                refine va_get (D := D) (ci := 2) (v := .int (nI (S 10 1))) (C := RX2) (T := TX2) (N := 15) hx hb hts hin2 hown hK hP 0 rfl rfl 13 (by decide) (hts (.fieldLink RX2 52 "ProofMarks$Sheet" "paper" "I") (List.mem_of_getElem? (i := 3) rfl)) (fun _ h9 => h9) rfl dX2_printFrame_84 ?_
                refine lv_iload_n hx hb dX2_printFrame_87 rfl (lv_at hl 0 rfl) ?_
                refine kx_isub hx hb (by omega) dX2_printFrame_88 ?_
                refine kx_put (D := D) (ci := 2) (v := .int (nI ((S 10 1) - (10 * j5 * j5)))) (ty := .int) (ws' := pm_sh y q (pm_vn (S 9)) (pm_vn (updN (S 0) j3 3)) (pm_vt (S 4)) (pm_vc (S 4)) (pm_vn (S 1)) (pm_vn (updN (S 2) j3 j5)) (pm_vi (S 3)) (pm_vn (S 5)) (pm_vn (S 6)) (pm_vn (S 7)) (pm_vn (S 8)) (pm_vn (updN (S 11) j5 (((S 11) j5) + 1))) (nI (S 10 0)) (nI ((S 10 1) - (10 * j5 * j5))) (nI (S 10 2))) (C := RX2) (T := TX2) (N := 15) hx hb hts hin2 tyX2 tyX2_ok nmX2 hown hK hP hD hS 0 rfl rfl 13 (by decide) (hts (.fieldLink RX2 52 "ProofMarks$Sheet" "paper" "I") (List.mem_of_getElem? (i := 3) rfl)) (fun _ h9 => h9) rfl (by decide +kernel) rfl rfl (Nat.le_of_ble_eq_true rfl) rfl dX2_printFrame_89 (fun H locs hP hD hS => ?_)
                refine lv_aload_n hx hb dX2_printFrame_92 rfl (lv_at hl 1 rfl) ?_
                refine lv_dup hx hb dX2_printFrame_93 rfl ?_
                refine va_get (D := D) (ci := 2) (v := .int (nI (S 10 2))) (C := RX2) (T := TX2) (N := 15) hx hb hts hin2 hown hK hP 0 rfl rfl 14 (by decide) (hts (.fieldLink RX2 55 "ProofMarks$Sheet" "paperTaken" "I") (List.mem_of_getElem? (i := 5) rfl)) (fun _ h9 => h9) rfl dX2_printFrame_94 ?_
                refine lv_iload_n hx hb dX2_printFrame_97 rfl (lv_at hl 0 rfl) ?_
                refine kx_iadd hx hb dX2_printFrame_98 ?_
                refine kx_put (D := D) (ci := 2) (v := .int (nI ((S 10 2) + (10 * j5 * j5)))) (ty := .int) (ws' := pm_sh y q (pm_vn (S 9)) (pm_vn (updN (S 0) j3 3)) (pm_vt (S 4)) (pm_vc (S 4)) (pm_vn (S 1)) (pm_vn (updN (S 2) j3 j5)) (pm_vi (S 3)) (pm_vn (S 5)) (pm_vn (S 6)) (pm_vn (S 7)) (pm_vn (S 8)) (pm_vn (updN (S 11) j5 (((S 11) j5) + 1))) (nI (S 10 0)) (nI ((S 10 1) - (10 * j5 * j5))) (nI ((S 10 2) + (10 * j5 * j5)))) (C := RX2) (T := TX2) (N := 15) hx hb hts hin2 tyX2 tyX2_ok nmX2 hown hK hP hD hS 0 rfl rfl 14 (by decide) (hts (.fieldLink RX2 55 "ProofMarks$Sheet" "paperTaken" "I") (List.mem_of_getElem? (i := 5) rfl)) (fun _ h9 => h9) rfl (by decide +kernel) rfl rfl (Nat.le_of_ble_eq_true rfl) rfl dX2_printFrame_99 (fun H locs hP hD hS => ?_)
                refine lv_aload_n hx hb dX2_printFrame_102 rfl (lv_at hl 1 rfl) ?_
                refine va_get (D := D) (ci := 2) (v := .int (nI ((S 10 1) - (10 * j5 * j5)))) (C := RX2) (T := TX2) (N := 15) hx hb hts hin2 hown hK hP 0 rfl rfl 13 (by decide) (hts (.fieldLink RX2 52 "ProofMarks$Sheet" "paper" "I") (List.mem_of_getElem? (i := 3) rfl)) (fun _ h9 => h9) rfl dX2_printFrame_103 ?_
                have E : pm_aPrint S (nI j3) (nI j5) = (nI ((S 10 1) - (10 * j5 * j5)), pm_st (pm_st (pm_st (pm_st (pm_st S 0 j3 3) 2 j3 j5) 10 1 (S 10 1 - 10 * j5 * j5)) 10 2 (S 10 2 + 10 * j5 * j5)) 11 j5 (S 11 j5 + 1)) := by simp only [pm_aPrint, pm_ix_in hj3 (show (30 : Nat) < 2 ^ 31 by decide), pm_ix_in hj5 (show (4 : Nat) < 2 ^ 31 by decide)] <;> ((repeat' split) <;> first | rfl | (exfalso; omega))
                exact W.iret hx hb hr (fun t ht _ => ⟨⟨_, (), rfl, (by rw [E]), (by show va_P D vwCl (pm_shS y q (pm_aPrint S (nI j3) (nI j5)).2) t.heap; rw [ht]; exact (by rw [E]; exact hP))⟩, hS.F ht⟩) hS.2.2 dX2_printFrame_106
              · skip
                refine lv_bipush (v := (-5)) hx hb dX2_printFrame_55 (by decide) ?_
                have E : pm_aPrint S (nI j3) (nI j5) = ((-5), S) := by simp only [pm_aPrint, pm_ix_in hj3 (show (30 : Nat) < 2 ^ 31 by decide), pm_ix_in hj5 (show (4 : Nat) < 2 ^ 31 by decide)] <;> ((repeat' split) <;> first | rfl | (exfalso; omega))
                exact W.iret hx hb hr (fun t ht _ => ⟨⟨_, (), rfl, (by rw [E]), (by show va_P D vwCl (pm_shS y q (pm_aPrint S (nI j3) (nI j5)).2) t.heap; rw [ht]; exact (by rw [E]; exact hP))⟩, hS.F ht⟩) hS.2.2 dX2_printFrame_57
        · skip
          refine lv_bipush (v := (-2)) hx hb dX2_printFrame_19 (by decide) ?_
          have E : pm_aPrint S (nI j3) (nI j5) = ((-2), S) := by simp only [pm_aPrint, pm_ix_in hj3 (show (30 : Nat) < 2 ^ 31 by decide), pm_ix_in hj5 (show (4 : Nat) < 2 ^ 31 by decide)] <;> ((repeat' split) <;> first | rfl | (exfalso; omega))
          exact W.iret hx hb hr (fun t ht _ => ⟨⟨_, (), rfl, (by rw [E]), (by show va_P D vwCl (pm_shS y q (pm_aPrint S (nI j3) (nI j5)).2) t.heap; rw [ht]; exact (by rw [E]; exact hP))⟩, hS.F ht⟩) hS.2.2 dX2_printFrame_21
  · skip
    refine lv_if_ne (tgt := 9) hx hb dX2_printFrame_4 (by decide) (fun c15 => (c15 (by decide)).elim) (fun _ => ?_)
    refine lv_iconst (v := -1) hx hb dX2_printFrame_7 (by decide) ?_
    have E : pm_aPrint S xf xz = (-1, S) := by simp only [pm_aPrint, pm_ix_out hnj3] <;> ((repeat' split) <;> first | rfl | (exfalso; omega))
    exact W.iret hx hb hr (fun t ht _ => ⟨⟨_, (), rfl, (by rw [E]), (by show va_P D vwCl (pm_shS y q (pm_aPrint S xf xz).2) t.heap; rw [ht]; exact (by rw [E]; exact hP))⟩, hS.F ht⟩) hS.2.2 dX2_printFrame_8

set_option maxHeartbeats 4000000 in
set_option maxRecDepth 100000 in
theorem k_X2_addPaper (l : Launch) (D : va_G) (y : Nat → ClassId) (q : Nat → Nat) (S : Nat → Nat → Nat) (xb : Int32) (hI : pm_Inv S) : Met l yX2_addPaper wsX2_addPaper ({ frames := 1, cells := 0, slots := 0, locals := 14 } : Room) (pm_wr D (pm_ty y) [.ref (q 0), .int xb] (pm_shS y q S)) (pm_Qi D (fun (r : Int32) (_ : Unit) => r = (pm_aBuy S xb).1) (fun (_ : Unit) => pm_shS y q (pm_aBuy S xb).2) (pm_shS y q S)) 0 0 (pm_ad (pm_shS y q S)) := by
  refine Met.ofW (cc := cX2_addPaper) (maxL := 2) (ret := (some .int)) (by decide) rfl ?_
  intro p e s m args below meth c s₁ B hml hpre
  obtain ⟨rfl, hP, hK, hD0⟩ := hpre
  have hx := B.exec
  have hb := B.bytes
  have hr := B.returns
  have hts := atoms_spec (ws := wsX2_addPaper) B.pre
  have hown : s.vm.findClass RX2 = some m.cls := findClass_of_methodNamed B.named
  have hlocks := B.notSynchronized
  have hin2 : ∀ w ∈ u_ws RX2 TX2 15, w ∈ wsX2_addPaper := fun w h => List.mem_cons_of_mem _ (List.mem_append_right _ h)
  have hD := pm_ad_self hD0
  have hS : va_S (pm_ad (pm_shS y q S)) s.heap s.heap [] := va_S.rf
  have hP : va_P D vwCl (pm_shS y q S) s.heap := hP
  have hl := lv_entry ([.ref (q 0), .int xb]) (n := 2) (Nat.le_of_ble_eq_true rfl)
  rw [lg_entry_eq]
  generalize (lg_sl ([.ref (q 0), .int xb]) ++ List.replicate (2 - (lg_sl ([.ref (q 0), .int xb])).length) Slot.unset).toArray = ls at hl ⊢
  have hl : lv_has ls 2 [(0, .ref (q 0)), (1, .int xb)] := hl
  rcases pm_cases xb (n := 100) (by decide) with hnj1 | ⟨j1, hj1, rfl⟩
  · skip
    refine lv_iload_n hx hb dX2_addPaper_0 rfl (lv_at hl 1 rfl) ?_
    refine lv_iconst (v := nI 1) hx hb dX2_addPaper_1 (by decide) ?_
    refine lv_icmp_lt (tgt := 11) hx hb dX2_addPaper_2 (by decide) (fun c2 => ?_) (fun c2 => ?_)
    · skip
      refine lv_bipush (v := (-2)) hx hb dX2_addPaper_11 (by decide) ?_
      have E : pm_aBuy S xb = ((-2), S) := by simp only [pm_aBuy, pm_ix_out hnj1] <;> ((repeat' split) <;> first | rfl | (exfalso; omega))
      exact W.iret hx hb hr (fun t ht _ => ⟨⟨_, (), rfl, (by rw [E]), (by show va_P D vwCl (pm_shS y q (pm_aBuy S xb).2) t.heap; rw [ht]; exact (by rw [E]; exact hP))⟩, hS.F ht⟩) hS.2.2 dX2_addPaper_13
    · skip
      refine lv_iload_n hx hb dX2_addPaper_5 rfl (lv_at hl 1 rfl) ?_
      refine lv_bipush (v := nI 99) hx hb dX2_addPaper_6 (by decide) ?_
      refine lv_icmp_le (tgt := 14) hx hb dX2_addPaper_8 (by decide) (fun c3 => by exfalso; exact pm_lead1 (n := 99) hnj1 (by decide) (by assumption) (by assumption)) (fun c3 => ?_)
      refine lv_bipush (v := (-2)) hx hb dX2_addPaper_11 (by decide) ?_
      have E : pm_aBuy S xb = ((-2), S) := by simp only [pm_aBuy, pm_ix_out hnj1] <;> ((repeat' split) <;> first | rfl | (exfalso; omega))
      exact W.iret hx hb hr (fun t ht _ => ⟨⟨_, (), rfl, (by rw [E]), (by show va_P D vwCl (pm_shS y q (pm_aBuy S xb).2) t.heap; rw [ht]; exact (by rw [E]; exact hP))⟩, hS.F ht⟩) hS.2.2 dX2_addPaper_13
  · skip
    refine lv_iload_n hx hb dX2_addPaper_0 rfl (lv_at hl 1 rfl) ?_
    refine lv_iconst (v := nI 1) hx hb dX2_addPaper_1 (by decide) ?_
    refine kx_icmp_lt (tgt := 11) hx hb (by omega) (by decide) dX2_addPaper_2 (by decide) (fun c4 => ?_) (fun c4 => ?_)
    · skip
      refine lv_bipush (v := (-2)) hx hb dX2_addPaper_11 (by decide) ?_
      have E : pm_aBuy S (nI j1) = ((-2), S) := by simp only [pm_aBuy, pm_ix_in hj1 (show (100 : Nat) < 2 ^ 31 by decide)] <;> ((repeat' split) <;> first | rfl | (exfalso; omega))
      exact W.iret hx hb hr (fun t ht _ => ⟨⟨_, (), rfl, (by rw [E]), (by show va_P D vwCl (pm_shS y q (pm_aBuy S (nI j1)).2) t.heap; rw [ht]; exact (by rw [E]; exact hP))⟩, hS.F ht⟩) hS.2.2 dX2_addPaper_13
    · skip
      refine lv_iload_n hx hb dX2_addPaper_5 rfl (lv_at hl 1 rfl) ?_
      refine lv_bipush (v := nI 99) hx hb dX2_addPaper_6 (by decide) ?_
      refine kx_icmp_le (tgt := 14) hx hb (by omega) (by decide) dX2_addPaper_8 (by decide) (fun c5 => ?_) (fun c5 => ?_)
      · skip
        refine lv_aload_n hx hb dX2_addPaper_14 rfl (lv_at hl 0 rfl) ?_
        refine lv_aload_n hx hb dX2_addPaper_15 rfl (lv_at hl 0 rfl) ?_
        refine va_get (D := D) (ci := 2) (v := .int (nI (S 10 1))) (C := RX2) (T := TX2) (N := 15) hx hb hts hin2 hown hK hP 0 rfl rfl 13 (by decide) (hts (.fieldLink RX2 52 "ProofMarks$Sheet" "paper" "I") (List.mem_of_getElem? (i := 1) rfl)) (fun _ h9 => h9) rfl dX2_addPaper_16 ?_
        have := hI.pap
        refine lv_iload_n hx hb dX2_addPaper_19 rfl (lv_at hl 1 rfl) ?_
        refine kx_iadd hx hb dX2_addPaper_20 ?_
        refine lv_sipush (v := nI 999) hx hb dX2_addPaper_21 (by decide) ?_
        refine va_mmin hx hb (by rw [hml]; exact hl.1.symm) hown (hts (.methodLink RX2 92 Lib.Math.min.name) (List.mem_of_getElem? (i := 2) rfl)) (hts (.static Lib.Math.min.name) (List.mem_of_getElem? (i := 3) rfl)) (hts (.initialized "java/lang/Math") (List.mem_of_getElem? (i := 4) rfl)) (hts (.code Lib.Math.min.name Lib.Math.min.code 2 (some .int)) (List.mem_of_getElem? (i := 5) rfl)) (Nat.le_of_ble_eq_true rfl) (Nat.le_of_ble_eq_true rfl) (Nat.le_of_ble_eq_true rfl) (Nat.le_of_ble_eq_true rfl) dX2_addPaper_24 ?_
        refine lv_topi (fun x6 e7 => ?_)
        obtain rfl : x6 = nI (if 999 < S 10 1 + j1 then 999 else S 10 1 + j1) := e7.trans (pm_min (by omega) (by decide))
        refine kx_put (D := D) (ci := 2) (v := .int (nI (if 999 < S 10 1 + j1 then 999 else S 10 1 + j1))) (ty := .int) (ws' := pm_sh y q (pm_vn (S 9)) (pm_vn (S 0)) (pm_vt (S 4)) (pm_vc (S 4)) (pm_vn (S 1)) (pm_vn (S 2)) (pm_vi (S 3)) (pm_vn (S 5)) (pm_vn (S 6)) (pm_vn (S 7)) (pm_vn (S 8)) (pm_vn (S 11)) (nI (S 10 0)) (nI (if 999 < S 10 1 + j1 then 999 else S 10 1 + j1)) (nI (S 10 2))) (C := RX2) (T := TX2) (N := 15) hx hb hts hin2 tyX2 tyX2_ok nmX2 hown hK hP hD hS 0 rfl rfl 13 (by decide) (hts (.fieldLink RX2 52 "ProofMarks$Sheet" "paper" "I") (List.mem_of_getElem? (i := 1) rfl)) (fun _ h9 => h9) rfl (by decide +kernel) rfl rfl (Nat.le_of_ble_eq_true rfl) rfl dX2_addPaper_27 (fun H locs hP hD hS => ?_)
        refine lv_aload_n hx hb dX2_addPaper_30 rfl (lv_at hl 0 rfl) ?_
        refine va_get (D := D) (ci := 2) (v := .int (nI (if 999 < S 10 1 + j1 then 999 else S 10 1 + j1))) (C := RX2) (T := TX2) (N := 15) hx hb hts hin2 hown hK hP 0 rfl rfl 13 (by decide) (hts (.fieldLink RX2 52 "ProofMarks$Sheet" "paper" "I") (List.mem_of_getElem? (i := 1) rfl)) (fun _ h9 => h9) rfl dX2_addPaper_31 ?_
        have E : pm_aBuy S (nI j1) = (nI (if 999 < S 10 1 + j1 then 999 else S 10 1 + j1), pm_st S 10 1 (if 999 < S 10 1 + j1 then 999 else S 10 1 + j1)) := by simp only [pm_aBuy, pm_ix_in hj1 (show (100 : Nat) < 2 ^ 31 by decide)] <;> ((repeat' split) <;> first | rfl | (exfalso; omega))
        exact W.iret hx hb hr (fun t ht _ => ⟨⟨_, (), rfl, (by rw [E]), (by show va_P D vwCl (pm_shS y q (pm_aBuy S (nI j1)).2) t.heap; rw [ht]; exact (by rw [E]; exact hP))⟩, hS.F ht⟩) hS.2.2 dX2_addPaper_34
      · skip
        refine lv_bipush (v := (-2)) hx hb dX2_addPaper_11 (by decide) ?_
        have E : pm_aBuy S (nI j1) = ((-2), S) := by simp only [pm_aBuy, pm_ix_in hj1 (show (100 : Nat) < 2 ^ 31 by decide)] <;> ((repeat' split) <;> first | rfl | (exfalso; omega))
        exact W.iret hx hb hr (fun t ht _ => ⟨⟨_, (), rfl, (by rw [E]), (by show va_P D vwCl (pm_shS y q (pm_aBuy S (nI j1)).2) t.heap; rw [ht]; exact (by rw [E]; exact hP))⟩, hS.F ht⟩) hS.2.2 dX2_addPaper_13

set_option maxHeartbeats 4000000 in
set_option maxRecDepth 100000 in
theorem k_X2_openAgain (l : Launch) (D : va_G) (y : Nat → ClassId) (q : Nat → Nat) (S : Nat → Nat → Nat) (xf : Int32) (hI : pm_Inv S) : Met l yX2_openAgain wsX2_openAgain ({ frames := 1, cells := 0, slots := 0, locals := 20 } : Room) (pm_wr D (pm_ty y) [.ref (q 0), .int xf] (pm_shS y q S)) (pm_Qi D (fun (r : Int32) (_ : Unit) => r = (pm_aReopen S xf).1) (fun (_ : Unit) => pm_shS y q (pm_aReopen S xf).2) (pm_shS y q S)) 0 0 (pm_ad (pm_shS y q S)) := by
  refine Met.ofW (cc := cX2_openAgain) (maxL := 3) (ret := (some .int)) (by decide) rfl ?_
  intro p e s m args below meth c s₁ B hml hpre
  obtain ⟨rfl, hP, hK, hD0⟩ := hpre
  have hx := B.exec
  have hb := B.bytes
  have hr := B.returns
  have hts := atoms_spec (ws := wsX2_openAgain) B.pre
  have hown : s.vm.findClass RX2 = some m.cls := findClass_of_methodNamed B.named
  have hlocks := B.notSynchronized
  have hin2 : ∀ w ∈ u_ws RX2 TX2 15, w ∈ wsX2_openAgain := fun w h => List.mem_cons_of_mem _ (List.mem_append_right _ h)
  have hD := pm_ad_self hD0
  have hS : va_S (pm_ad (pm_shS y q S)) s.heap s.heap [] := va_S.rf
  have hP : va_P D vwCl (pm_shS y q S) s.heap := hP
  have hl := lv_entry ([.ref (q 0), .int xf]) (n := 3) (Nat.le_of_ble_eq_true rfl)
  rw [lg_entry_eq]
  generalize (lg_sl ([.ref (q 0), .int xf]) ++ List.replicate (3 - (lg_sl ([.ref (q 0), .int xf])).length) Slot.unset).toArray = ls at hl ⊢
  have hl : lv_has ls 3 [(0, .ref (q 0)), (1, .int xf)] := hl
  refine lv_iload_n hx hb dX2_openAgain_0 rfl (lv_at hl 1 rfl) ?_
  refine vp_callSi (W.runS (As := [.int xf]) (rest := []) ⟨hx, hb, hml, hown, hts⟩ (k_X2_isFrame l xf) (va_cwS 1 hts gX2_openAgain_X2_isFrame rfl rfl rfl hd_X2_isFrame ⟨Nat.le_of_ble_eq_true rfl, Nat.le_of_ble_eq_true rfl⟩) ⟨pm_no_blind, pm_no_pre⟩ rfl rfl hl.1 rfl (lv_room (Nat.le_of_ble_eq_true rfl)) dX2_openAgain_1 ⟨Nat.le_of_ble_eq_true rfl, Nat.le_of_ble_eq_true rfl⟩) (fun r1 h2 => ?_)
  rcases h2 with ⟨j3, hj3, ej3, rfl⟩ | ⟨hnj3, rfl⟩
  · subst ej3
    refine lv_if_ne (tgt := 9) hx hb dX2_openAgain_4 (by decide) (fun _ => ?_) (fun c4 => absurd c4 (by decide))
    refine lv_aload_n hx hb dX2_openAgain_9 rfl (lv_at hl 0 rfl) ?_
    refine va_get (D := D) (ci := 2) (v := .ref (q 2)) (C := RX2) (T := TX2) (N := 15) hx hb hts hin2 hown hK hP 0 rfl rfl 1 (by decide) (hts (.fieldLink RX2 15 "ProofMarks$Sheet" "how" "[I") (List.mem_of_getElem? (i := 1) rfl)) (fun _ h9 => h9) rfl dX2_openAgain_10 ?_
    refine lv_iload_n hx hb dX2_openAgain_13 rfl (lv_at hl 1 rfl) ?_
    refine kx_iald (v := nI ((S 0) j3)) hx hb hK hP 2 0 rfl rfl (by omega) (by decide) rfl dX2_openAgain_14 ?_
    have := hI.how j3 (by omega)
    refine lv_istore_n (lv' := [(2, .int (nI ((S 0) j3))), (0, .ref (q 0)), (1, .int (nI j3))]) hx hb dX2_openAgain_15 rfl hl (by decide) rfl (fun ls hl => ?_)
    refine lv_iload_n hx hb dX2_openAgain_16 rfl (lv_at hl 0 rfl) ?_
    refine kx_if_eq (tgt := 25) hx hb (by omega) dX2_openAgain_17 (by decide) (fun c5 => ?_) (fun c5 => ?_)
    · skip
      refine lv_bipush (v := (-5)) hx hb dX2_openAgain_25 (by decide) ?_
      have E : pm_aReopen S (nI j3) = ((-5), S) := by simp only [pm_aReopen, pm_ix_in hj3 (show (30 : Nat) < 2 ^ 31 by decide)] <;> ((repeat' split) <;> first | rfl | (exfalso; omega))
      exact W.iret hx hb hr (fun t ht _ => ⟨⟨_, (), rfl, (by rw [E]), (by show va_P D vwCl (pm_shS y q (pm_aReopen S (nI j3)).2) t.heap; rw [ht]; exact (by rw [E]; exact hP))⟩, hS.F ht⟩) hS.2.2 dX2_openAgain_27
    · skip
      refine lv_iload_n hx hb dX2_openAgain_20 rfl (lv_at hl 0 rfl) ?_
      refine lv_iconst (v := nI 3) hx hb dX2_openAgain_21 (by decide) ?_
      refine kx_icmp_ne (tgt := 28) hx hb (by omega) (by decide) dX2_openAgain_22 (by decide) (fun c6 => ?_) (fun c6 => ?_)
      · skip
        refine lv_aload_n hx hb dX2_openAgain_28 rfl (lv_at hl 1 rfl) ?_
        refine va_get (D := D) (ci := 2) (v := .ref (q 2)) (C := RX2) (T := TX2) (N := 15) hx hb hts hin2 hown hK hP 0 rfl rfl 1 (by decide) (hts (.fieldLink RX2 15 "ProofMarks$Sheet" "how" "[I") (List.mem_of_getElem? (i := 1) rfl)) (fun _ h9 => h9) rfl dX2_openAgain_29 ?_
        refine lv_iload_n hx hb dX2_openAgain_32 rfl (lv_at hl 2 rfl) ?_
        refine lv_iconst (v := nI 0) hx hb dX2_openAgain_33 (by decide) ?_
        refine kx_iast (ws' := pm_sh y q (pm_vn (S 9)) (pm_vn (updN (S 0) j3 0)) (pm_vt (S 4)) (pm_vc (S 4)) (pm_vn (S 1)) (pm_vn (S 2)) (pm_vi (S 3)) (pm_vn (S 5)) (pm_vn (S 6)) (pm_vn (S 7)) (pm_vn (S 8)) (pm_vn (S 11)) (nI (S 10 0)) (nI (S 10 1)) (nI (S 10 2))) hx hb hK hP hD hS 2 0 rfl rfl (by omega) (by decide) (pm_vn_u (S 0) j3 0) rfl dX2_openAgain_34 (fun H locs hP hD hS => ?_)
        refine lv_aload_n hx hb dX2_openAgain_35 rfl (lv_at hl 1 rfl) ?_
        refine va_get (D := D) (ci := 2) (v := .ref (q 5)) (C := RX2) (T := TX2) (N := 15) hx hb hts hin2 hown hK hP 0 rfl rfl 4 (by decide) (hts (.fieldLink RX2 24 "ProofMarks$Sheet" "dull" "[I") (List.mem_of_getElem? (i := 2) rfl)) (fun _ h9 => h9) rfl dX2_openAgain_36 ?_
        refine lv_iload_n hx hb dX2_openAgain_39 rfl (lv_at hl 2 rfl) ?_
        refine lv_iconst (v := nI 0) hx hb dX2_openAgain_40 (by decide) ?_
        refine kx_iast (ws' := pm_sh y q (pm_vn (S 9)) (pm_vn (updN (S 0) j3 0)) (pm_vt (S 4)) (pm_vc (S 4)) (pm_vn (updN (S 1) j3 0)) (pm_vn (S 2)) (pm_vi (S 3)) (pm_vn (S 5)) (pm_vn (S 6)) (pm_vn (S 7)) (pm_vn (S 8)) (pm_vn (S 11)) (nI (S 10 0)) (nI (S 10 1)) (nI (S 10 2))) hx hb hK hP hD hS 5 0 rfl rfl (by omega) (by decide) (pm_vn_u (S 1) j3 0) rfl dX2_openAgain_41 (fun H locs hP hD hS => ?_)
        refine lv_aload_n hx hb dX2_openAgain_42 rfl (lv_at hl 1 rfl) ?_
        refine va_get (D := D) (ci := 2) (v := .ref (q 6)) (C := RX2) (T := TX2) (N := 15) hx hb hts hin2 hown hK hP 0 rfl rfl 5 (by decide) (hts (.fieldLink RX2 27 "ProofMarks$Sheet" "sizes" "[I") (List.mem_of_getElem? (i := 3) rfl)) (fun _ h9 => h9) rfl dX2_openAgain_43 ?_
        refine lv_iload_n hx hb dX2_openAgain_46 rfl (lv_at hl 2 rfl) ?_
        refine lv_iconst (v := nI 0) hx hb dX2_openAgain_47 (by decide) ?_
        refine kx_iast (ws' := pm_sh y q (pm_vn (S 9)) (pm_vn (updN (S 0) j3 0)) (pm_vt (S 4)) (pm_vc (S 4)) (pm_vn (updN (S 1) j3 0)) (pm_vn (updN (S 2) j3 0)) (pm_vi (S 3)) (pm_vn (S 5)) (pm_vn (S 6)) (pm_vn (S 7)) (pm_vn (S 8)) (pm_vn (S 11)) (nI (S 10 0)) (nI (S 10 1)) (nI (S 10 2))) hx hb hK hP hD hS 6 0 rfl rfl (by omega) (by decide) (pm_vn_u (S 2) j3 0) rfl dX2_openAgain_48 (fun H locs hP hD hS => ?_)
        refine lv_iload_n hx hb dX2_openAgain_49 rfl (lv_at hl 0 rfl) ?_
        have E : pm_aReopen S (nI j3) = (nI ((S 0) j3), pm_st (pm_st (pm_st S 0 j3 0) 1 j3 0) 2 j3 0) := by simp only [pm_aReopen, pm_ix_in hj3 (show (30 : Nat) < 2 ^ 31 by decide)] <;> ((repeat' split) <;> first | rfl | (exfalso; omega))
        exact W.iret hx hb hr (fun t ht _ => ⟨⟨_, (), rfl, (by rw [E]), (by show va_P D vwCl (pm_shS y q (pm_aReopen S (nI j3)).2) t.heap; rw [ht]; exact (by rw [E]; exact hP))⟩, hS.F ht⟩) hS.2.2 dX2_openAgain_50
      · skip
        refine lv_bipush (v := (-5)) hx hb dX2_openAgain_25 (by decide) ?_
        have E : pm_aReopen S (nI j3) = ((-5), S) := by simp only [pm_aReopen, pm_ix_in hj3 (show (30 : Nat) < 2 ^ 31 by decide)] <;> ((repeat' split) <;> first | rfl | (exfalso; omega))
        exact W.iret hx hb hr (fun t ht _ => ⟨⟨_, (), rfl, (by rw [E]), (by show va_P D vwCl (pm_shS y q (pm_aReopen S (nI j3)).2) t.heap; rw [ht]; exact (by rw [E]; exact hP))⟩, hS.F ht⟩) hS.2.2 dX2_openAgain_27
  · skip
    refine lv_if_ne (tgt := 9) hx hb dX2_openAgain_4 (by decide) (fun c7 => (c7 (by decide)).elim) (fun _ => ?_)
    refine lv_iconst (v := -1) hx hb dX2_openAgain_7 (by decide) ?_
    have E : pm_aReopen S xf = (-1, S) := by simp only [pm_aReopen, pm_ix_out hnj3] <;> ((repeat' split) <;> first | rfl | (exfalso; omega))
    exact W.iret hx hb hr (fun t ht _ => ⟨⟨_, (), rfl, (by rw [E]), (by show va_P D vwCl (pm_shS y q (pm_aReopen S xf).2) t.heap; rw [ht]; exact (by rw [E]; exact hP))⟩, hS.F ht⟩) hS.2.2 dX2_openAgain_8

set_option maxHeartbeats 4000000 in
set_option maxRecDepth 100000 in
theorem k_X2_argueAgainst (l : Launch) (D : va_G) (y : Nat → ClassId) (q : Nat → Nat) (S : Nat → Nat → Nat) (xe xo xf : Int32) (hI : pm_Inv S) : Met l yX2_argueAgainst wsX2_argueAgainst ({ frames := 1, cells := 0, slots := 0, locals := 23 } : Room) (pm_wr D (pm_ty y) [.ref (q 0), .int xe, .int xo, .int xf] (pm_shS y q S)) (pm_Qi D (fun (r : Int32) (_ : Unit) => r = (pm_aArgue S xe xo xf).1) (fun (_ : Unit) => pm_shS y q (pm_aArgue S xe xo xf).2) (pm_shS y q S)) 0 0 (pm_ad (pm_shS y q S)) := by
  refine Met.ofW (cc := cX2_argueAgainst) (maxL := 5) (ret := (some .int)) (by decide) rfl ?_
  intro p e s m args below meth c s₁ B hml hpre
  obtain ⟨rfl, hP, hK, hD0⟩ := hpre
  have hx := B.exec
  have hb := B.bytes
  have hr := B.returns
  have hts := atoms_spec (ws := wsX2_argueAgainst) B.pre
  have hown : s.vm.findClass RX2 = some m.cls := findClass_of_methodNamed B.named
  have hlocks := B.notSynchronized
  have hin2 : ∀ w ∈ u_ws RX2 TX2 15, w ∈ wsX2_argueAgainst := fun w h => List.mem_cons_of_mem _ (List.mem_append_right _ h)
  have hD := pm_ad_self hD0
  have hS : va_S (pm_ad (pm_shS y q S)) s.heap s.heap [] := va_S.rf
  have hP : va_P D vwCl (pm_shS y q S) s.heap := hP
  have hl := lv_entry ([.ref (q 0), .int xe, .int xo, .int xf]) (n := 5) (Nat.le_of_ble_eq_true rfl)
  rw [lg_entry_eq]
  generalize (lg_sl ([.ref (q 0), .int xe, .int xo, .int xf]) ++ List.replicate (5 - (lg_sl ([.ref (q 0), .int xe, .int xo, .int xf])).length) Slot.unset).toArray = ls at hl ⊢
  have hl : lv_has ls 5 [(0, .ref (q 0)), (1, .int xe), (2, .int xo), (3, .int xf)] := hl
  refine lv_iload_n hx hb dX2_argueAgainst_0 rfl (lv_at hl 1 rfl) ?_
  refine vp_callSi (W.runS (As := [.int xe]) (rest := []) ⟨hx, hb, hml, hown, hts⟩ (k_X2_isEditor l xe) (va_cwS 1 hts gX2_argueAgainst_X2_isEditor rfl rfl rfl hd_X2_isEditor ⟨Nat.le_of_ble_eq_true rfl, Nat.le_of_ble_eq_true rfl⟩) ⟨pm_no_blind, pm_no_pre⟩ rfl rfl hl.1 rfl (lv_room (Nat.le_of_ble_eq_true rfl)) dX2_argueAgainst_1 ⟨Nat.le_of_ble_eq_true rfl, Nat.le_of_ble_eq_true rfl⟩) (fun r1 h2 => ?_)
  rcases h2 with ⟨j3, hj3, ej3, rfl⟩ | ⟨hnj3, rfl⟩
  · subst ej3
    refine lv_if_eq (tgt := 21) hx hb dX2_argueAgainst_4 (by decide) (fun c4 => absurd c4 (by decide)) (fun _ => ?_)
    refine lv_iload_n hx hb dX2_argueAgainst_7 rfl (lv_at hl 2 rfl) ?_
    refine vp_callSi (W.runS (As := [.int xo]) (rest := []) ⟨hx, hb, hml, hown, hts⟩ (k_X2_isEditor l xo) (va_cwS 1 hts gX2_argueAgainst_X2_isEditor rfl rfl rfl hd_X2_isEditor ⟨Nat.le_of_ble_eq_true rfl, Nat.le_of_ble_eq_true rfl⟩) ⟨pm_no_blind, pm_no_pre⟩ rfl rfl hl.1 rfl (lv_room (Nat.le_of_ble_eq_true rfl)) dX2_argueAgainst_8 ⟨Nat.le_of_ble_eq_true rfl, Nat.le_of_ble_eq_true rfl⟩) (fun r5 h6 => ?_)
    rcases h6 with ⟨j7, hj7, ej7, rfl⟩ | ⟨hnj7, rfl⟩
    · subst ej7
      refine lv_if_eq (tgt := 21) hx hb dX2_argueAgainst_11 (by decide) (fun c8 => absurd c8 (by decide)) (fun _ => ?_)
      refine lv_iload_n hx hb dX2_argueAgainst_14 rfl (lv_at hl 3 rfl) ?_
      refine vp_callSi (W.runS (As := [.int xf]) (rest := []) ⟨hx, hb, hml, hown, hts⟩ (k_X2_isFrame l xf) (va_cwS 1 hts gX2_argueAgainst_X2_isFrame rfl rfl rfl hd_X2_isFrame ⟨Nat.le_of_ble_eq_true rfl, Nat.le_of_ble_eq_true rfl⟩) ⟨pm_no_blind, pm_no_pre⟩ rfl rfl hl.1 rfl (lv_room (Nat.le_of_ble_eq_true rfl)) dX2_argueAgainst_15 ⟨Nat.le_of_ble_eq_true rfl, Nat.le_of_ble_eq_true rfl⟩) (fun r9 h10 => ?_)
      rcases h10 with ⟨j11, hj11, ej11, rfl⟩ | ⟨hnj11, rfl⟩
      · subst ej11
        refine lv_if_ne (tgt := 23) hx hb dX2_argueAgainst_18 (by decide) (fun _ => ?_) (fun c12 => absurd c12 (by decide))
        refine lv_iload_n hx hb dX2_argueAgainst_23 rfl (lv_at hl 1 rfl) ?_
        refine lv_iload_n hx hb dX2_argueAgainst_24 rfl (lv_at hl 2 rfl) ?_
        refine kx_icmp_ne (tgt := 31) hx hb (by omega) (by omega) dX2_argueAgainst_25 (by decide) (fun c13 => ?_) (fun c13 => ?_)
        · skip
          refine lv_aload_n hx hb dX2_argueAgainst_31 rfl (lv_at hl 0 rfl) ?_
          refine va_get (D := D) (ci := 2) (v := .ref (q 1)) (C := RX2) (T := TX2) (N := 15) hx hb hts hin2 hown hK hP 0 rfl rfl 0 (by decide) (hts (.fieldLink RX2 11 "ProofMarks$Sheet" "settings" "[I") (List.mem_of_getElem? (i := 1) rfl)) (fun _ h9 => h9) rfl dX2_argueAgainst_32 ?_
          refine lv_iconst (v := nI 2) hx hb dX2_argueAgainst_35 (by decide) ?_
          refine kx_iald (v := nI ((S 9) 2)) hx hb hK hP 1 0 rfl rfl (by omega) (by decide) rfl dX2_argueAgainst_36 ?_
          have := hI.set9 2 (by omega)
          refine lv_istore (lv' := [(4, .int (nI ((S 9) 2))), (0, .ref (q 0)), (1, .int (nI j3)), (2, .int (nI j7)), (3, .int (nI j11))]) hx hb dX2_argueAgainst_37 hl (by decide) rfl (fun ls hl => ?_)
          refine lv_aload_n hx hb dX2_argueAgainst_39 rfl (lv_at hl 1 rfl) ?_
          refine lv_iload_n hx hb dX2_argueAgainst_40 rfl (lv_at hl 3 rfl) ?_
          refine lv_iload_n hx hb dX2_argueAgainst_41 rfl (lv_at hl 4 rfl) ?_
          refine vp_callSi (W.runV (As := [.int (nI j7), .int (nI j11)]) (rest := []) ⟨hx, hb, hml, hown, hts⟩ (k_X2_markOf l D y q S j7 j11 (hI.okm j11 (by omega)) (by omega) (by omega)) (cwV 2 hts gX2_argueAgainst_X2_markOf rfl rfl rfl hd_X2_markOf ⟨Nat.le_of_ble_eq_true rfl, Nat.le_of_ble_eq_true rfl⟩) ⟨pm_ro_blind, va_recv hK hP (ci := 2) (q0 := 0) rfl rfl, pm_ro_pre hP hK⟩ rfl rfl hl.1 rfl (lv_room (Nat.le_of_ble_eq_true rfl)) dX2_argueAgainst_42 ⟨Nat.le_of_ble_eq_true rfl, Nat.le_of_ble_eq_true rfl⟩) (fun r14 h15 => ?_)
          obtain rfl : r14 = nI (pm_mk (S 4 j11) j7) := h15
          have := pm_lt4 (S 4 j11) j7
          refine lv_iconst (v := nI 2) hx hb dX2_argueAgainst_45 (by decide) ?_
          refine kx_icmp_ne (tgt := 60) hx hb (by omega) (by decide) dX2_argueAgainst_46 (by decide) (fun c16 => ?_) (fun c16 => ?_)
          · skip
            refine lv_bipush (v := (-5)) hx hb dX2_argueAgainst_60 (by decide) ?_
            have E : pm_aArgue S (nI j3) (nI j7) (nI j11) = ((-5), S) := by simp only [pm_aArgue, pm_ix_in hj3 (show (3 : Nat) < 2 ^ 31 by decide), pm_ix_in hj7 (show (3 : Nat) < 2 ^ 31 by decide), pm_ix_in hj11 (show (30 : Nat) < 2 ^ 31 by decide)] <;> ((repeat' split) <;> first | rfl | (exfalso; omega))
            exact W.iret hx hb hr (fun t ht _ => ⟨⟨_, (), rfl, (by rw [E]), (by show va_P D vwCl (pm_shS y q (pm_aArgue S (nI j3) (nI j7) (nI j11)).2) t.heap; rw [ht]; exact (by rw [E]; exact hP))⟩, hS.F ht⟩) hS.2.2 dX2_argueAgainst_62
          · skip
            refine lv_aload_n hx hb dX2_argueAgainst_49 rfl (lv_at hl 1 rfl) ?_
            refine va_get (D := D) (ci := 2) (v := .ref (q 8)) (C := RX2) (T := TX2) (N := 15) hx hb hts hin2 hown hK hP 0 rfl rfl 7 (by decide) (hts (.fieldLink RX2 33 "ProofMarks$Sheet" "points" "[I") (List.mem_of_getElem? (i := 2) rfl)) (fun _ h9 => h9) rfl dX2_argueAgainst_50 ?_
            refine lv_iload_n hx hb dX2_argueAgainst_53 rfl (lv_at hl 2 rfl) ?_
            refine kx_iald (v := nI ((S 5) j3)) hx hb hK hP 8 0 rfl rfl (by omega) (by decide) rfl dX2_argueAgainst_54 ?_
            have := hI.pts j3 (by omega)
            refine lv_iload hx hb dX2_argueAgainst_55 (lv_at hl 0 rfl) ?_
            refine kx_icmp_ge (tgt := 63) hx hb (by omega) (by omega) dX2_argueAgainst_57 (by decide) (fun c17 => ?_) (fun c17 => ?_)
            · skip
              refine lv_aload_n hx hb dX2_argueAgainst_63 rfl (lv_at hl 1 rfl) ?_
              refine va_get (D := D) (ci := 2) (v := .ref (q 8)) (C := RX2) (T := TX2) (N := 15) hx hb hts hin2 hown hK hP 0 rfl rfl 7 (by decide) (hts (.fieldLink RX2 33 "ProofMarks$Sheet" "points" "[I") (List.mem_of_getElem? (i := 2) rfl)) (fun _ h9 => h9) rfl dX2_argueAgainst_64 ?_
              refine lv_iload_n hx hb dX2_argueAgainst_67 rfl (lv_at hl 2 rfl) ?_
              refine lv_dup2_11 hx hb dX2_argueAgainst_68 rfl rfl ?_
              refine kx_iald (v := nI ((S 5) j3)) hx hb hK hP 8 0 rfl rfl (by omega) (by decide) rfl dX2_argueAgainst_69 ?_
              have := hI.pts j3 (by omega)
              refine lv_iload hx hb dX2_argueAgainst_70 (lv_at hl 0 rfl) ?_
              refine kx_isub hx hb (by omega) dX2_argueAgainst_72 ?_
              refine kx_iast (ws' := pm_sh y q (pm_vn (S 9)) (pm_vn (S 0)) (pm_vt (S 4)) (pm_vc (S 4)) (pm_vn (S 1)) (pm_vn (S 2)) (pm_vi (S 3)) (pm_vn (updN (S 5) j3 (((S 5) j3) - ((S 9) 2)))) (pm_vn (S 6)) (pm_vn (S 7)) (pm_vn (S 8)) (pm_vn (S 11)) (nI (S 10 0)) (nI (S 10 1)) (nI (S 10 2))) hx hb hK hP hD hS 8 0 rfl rfl (by omega) (by decide) (pm_vn_u (S 5) j3 (((S 5) j3) - ((S 9) 2))) rfl dX2_argueAgainst_73 (fun H locs hP hD hS => ?_)
              refine lv_aload_n hx hb dX2_argueAgainst_74 rfl (lv_at hl 1 rfl) ?_
              refine va_get (D := D) (ci := 2) (v := .ref (q 9)) (C := RX2) (T := TX2) (N := 15) hx hb hts hin2 hown hK hP 0 rfl rfl 8 (by decide) (hts (.fieldLink RX2 36 "ProofMarks$Sheet" "arguments" "[I") (List.mem_of_getElem? (i := 3) rfl)) (fun _ h9 => h9) rfl dX2_argueAgainst_75 ?_
              refine lv_iload_n hx hb dX2_argueAgainst_78 rfl (lv_at hl 2 rfl) ?_
              refine lv_dup2_11 hx hb dX2_argueAgainst_79 rfl rfl ?_
              refine kx_iald (v := nI ((S 6) j3)) hx hb hK hP 9 0 rfl rfl (by omega) (by decide) rfl dX2_argueAgainst_80 ?_
              refine lv_iconst (v := nI 1) hx hb dX2_argueAgainst_81 (by decide) ?_
              refine kx_iadd hx hb dX2_argueAgainst_82 ?_
              refine kx_iast (ws' := pm_sh y q (pm_vn (S 9)) (pm_vn (S 0)) (pm_vt (S 4)) (pm_vc (S 4)) (pm_vn (S 1)) (pm_vn (S 2)) (pm_vi (S 3)) (pm_vn (updN (S 5) j3 (((S 5) j3) - ((S 9) 2)))) (pm_vn (updN (S 6) j3 (((S 6) j3) + 1))) (pm_vn (S 7)) (pm_vn (S 8)) (pm_vn (S 11)) (nI (S 10 0)) (nI (S 10 1)) (nI (S 10 2))) hx hb hK hP hD hS 9 0 rfl rfl (by omega) (by decide) (pm_vn_u (S 6) j3 (((S 6) j3) + 1)) rfl dX2_argueAgainst_83 (fun H locs hP hD hS => ?_)
              refine lv_aload_n hx hb dX2_argueAgainst_84 rfl (lv_at hl 1 rfl) ?_
              refine va_get (D := D) (ci := 2) (v := .ref (q 8)) (C := RX2) (T := TX2) (N := 15) hx hb hts hin2 hown hK hP 0 rfl rfl 7 (by decide) (hts (.fieldLink RX2 33 "ProofMarks$Sheet" "points" "[I") (List.mem_of_getElem? (i := 2) rfl)) (fun _ h9 => h9) rfl dX2_argueAgainst_85 ?_
              refine lv_iload_n hx hb dX2_argueAgainst_88 rfl (lv_at hl 3 rfl) ?_
              refine kx_iald (v := nI ((updN (S 5) j3 (((S 5) j3) - ((S 9) 2))) j7)) hx hb hK hP 8 0 rfl rfl (by omega) (by decide) rfl dX2_argueAgainst_89 ?_
              refine lv_topi (fun x18 e19 => ?_)
              obtain rfl : x18 = nI (S 5 j7) := e19.trans (congrArg nI (updN_n _ _ (by omega)))
              have := hI.pts j7 hj7
              refine lv_iload hx hb dX2_argueAgainst_90 (lv_at hl 0 rfl) ?_
              refine kx_icmp_lt (tgt := 108) hx hb (by omega) (by omega) dX2_argueAgainst_92 (by decide) (fun c20 => ?_) (fun c20 => ?_)
              · skip
                refine lv_aload_n hx hb dX2_argueAgainst_108 rfl (lv_at hl 1 rfl) ?_
                refine va_get (D := D) (ci := 2) (v := .ref (q 4)) (C := RX2) (T := TX2) (N := 15) hx hb hts hin2 hown hK hP 0 rfl rfl 3 (by decide) (hts (.fieldLink RX2 21 "ProofMarks$Sheet" "crosses" "[I") (List.mem_of_getElem? (i := 4) rfl)) (fun _ h9 => h9) rfl dX2_argueAgainst_109 ?_
                refine lv_iload_n hx hb dX2_argueAgainst_112 rfl (lv_at hl 4 rfl) ?_
                refine lv_aload_n hx hb dX2_argueAgainst_113 rfl (lv_at hl 1 rfl) ?_
                refine va_get (D := D) (ci := 2) (v := .ref (q 4)) (C := RX2) (T := TX2) (N := 15) hx hb hts hin2 hown hK hP 0 rfl rfl 3 (by decide) (hts (.fieldLink RX2 21 "ProofMarks$Sheet" "crosses" "[I") (List.mem_of_getElem? (i := 4) rfl)) (fun _ h9 => h9) rfl dX2_argueAgainst_114 ?_
                refine lv_iload_n hx hb dX2_argueAgainst_117 rfl (lv_at hl 4 rfl) ?_
                refine kx_iald (v := nI (pm_ck ((S 4) j11))) hx hb hK hP 4 0 rfl rfl (by omega) (by decide) rfl dX2_argueAgainst_118 ?_
                have := pm_ck8 ((S 4) j11)
                refine lv_iload_n hx hb dX2_argueAgainst_119 rfl (lv_at hl 3 rfl) ?_
                refine lv_iconst (v := nI 0) hx hb dX2_argueAgainst_120 (by decide) ?_
                refine vp_callSi (W.runS (As := [.int (nI (pm_ck ((S 4) j11))), .int (nI j7), .int (nI 0)]) (rest := [.int (nI j11), .ref (q 4)]) ⟨hx, hb, hml, hown, hts⟩ (k_X2_withEditor l (nI (pm_ck ((S 4) j11))) (nI j7) (nI 0)) (va_cwS 3 hts gX2_argueAgainst_X2_withEditor rfl rfl rfl hd_X2_withEditor ⟨Nat.le_of_ble_eq_true rfl, Nat.le_of_ble_eq_true rfl⟩) ⟨pm_no_blind, pm_no_pre⟩ rfl rfl hl.1 rfl (lv_room (Nat.le_of_ble_eq_true rfl)) dX2_argueAgainst_121 ⟨Nat.le_of_ble_eq_true rfl, Nat.le_of_ble_eq_true rfl⟩) (fun r21 h22 => ?_)
                obtain rfl : r21 = pm_we (nI (pm_ck ((S 4) j11))) (nI j7) (nI 0) := h22
                refine lv_topi (fun x23 e24 => ?_)
                obtain rfl : x23 = nI (pm_ck (pm_sm (S 4 j11) j7 0)) := e24.trans (pm_wec (hI.okm j11 hj11) hj7 (v := 0) (by decide))
                refine kx_iast (ws' := pm_sh y q (pm_vn (S 9)) (pm_vn (S 0)) (pm_vt (S 4)) (pm_vc (updN (S 4) j11 (pm_sm (S 4 j11) j7 0))) (pm_vn (S 1)) (pm_vn (S 2)) (pm_vi (S 3)) (pm_vn (updN (S 5) j3 (((S 5) j3) - ((S 9) 2)))) (pm_vn (updN (S 6) j3 (((S 6) j3) + 1))) (pm_vn (S 7)) (pm_vn (S 8)) (pm_vn (S 11)) (nI (S 10 0)) (nI (S 10 1)) (nI (S 10 2))) hx hb hK hP hD hS 4 0 rfl rfl (by omega) (by decide) (pm_vc_u (S 4) j11 (pm_sm (S 4 j11) j7 0)) rfl dX2_argueAgainst_124 (fun H locs hP hD hS => ?_)
                refine lv_aload_n hx hb dX2_argueAgainst_125 rfl (lv_at hl 1 rfl) ?_
                refine va_get (D := D) (ci := 2) (v := .ref (q 10)) (C := RX2) (T := TX2) (N := 15) hx hb hts hin2 hown hK hP 0 rfl rfl 9 (by decide) (hts (.fieldLink RX2 39 "ProofMarks$Sheet" "lifted" "[I") (List.mem_of_getElem? (i := 5) rfl)) (fun _ h9 => h9) rfl dX2_argueAgainst_126 ?_
                refine lv_iload_n hx hb dX2_argueAgainst_129 rfl (lv_at hl 3 rfl) ?_
                refine lv_dup2_11 hx hb dX2_argueAgainst_130 rfl rfl ?_
                refine kx_iald (v := nI ((S 7) j7)) hx hb hK hP 10 0 rfl rfl (by omega) (by decide) rfl dX2_argueAgainst_131 ?_
                refine lv_iconst (v := nI 1) hx hb dX2_argueAgainst_132 (by decide) ?_
                refine kx_iadd hx hb dX2_argueAgainst_133 ?_
                refine kx_iast (ws' := pm_sh y q (pm_vn (S 9)) (pm_vn (S 0)) (pm_vt (S 4)) (pm_vc (updN (S 4) j11 (pm_sm (S 4 j11) j7 0))) (pm_vn (S 1)) (pm_vn (S 2)) (pm_vi (S 3)) (pm_vn (updN (S 5) j3 (((S 5) j3) - ((S 9) 2)))) (pm_vn (updN (S 6) j3 (((S 6) j3) + 1))) (pm_vn (updN (S 7) j7 (((S 7) j7) + 1))) (pm_vn (S 8)) (pm_vn (S 11)) (nI (S 10 0)) (nI (S 10 1)) (nI (S 10 2))) hx hb hK hP hD hS 10 0 rfl rfl (by omega) (by decide) (pm_vn_u (S 7) j7 (((S 7) j7) + 1)) rfl dX2_argueAgainst_134 (fun H locs hP hD hS => ?_)
                have eT : pm_vt (S 4) = pm_vt (updN (S 4) j11 (pm_sm (S 4 j11) j7 0)) := pm_vt_eq (pm_tk_sm0 (hI.okm j11 hj11) hj7 (by assumption))
                have hP : va_P D vwCl (pm_sh y q (pm_vn (S 9)) (pm_vn (S 0)) (pm_vt (updN (S 4) j11 (pm_sm (S 4 j11) j7 0))) (pm_vc (updN (S 4) j11 (pm_sm (S 4 j11) j7 0))) (pm_vn (S 1)) (pm_vn (S 2)) (pm_vi (S 3)) (pm_vn (updN (S 5) j3 (((S 5) j3) - ((S 9) 2)))) (pm_vn (updN (S 6) j3 (((S 6) j3) + 1))) (pm_vn (updN (S 7) j7 (((S 7) j7) + 1))) (pm_vn (S 8)) (pm_vn (S 11)) (nI (S 10 0)) (nI (S 10 1)) (nI (S 10 2))) H := by rw [← eT]; exact hP
                refine lv_iconst (v := nI 1) hx hb dX2_argueAgainst_135 (by decide) ?_
                have E : pm_aArgue S (nI j3) (nI j7) (nI j11) = (nI 1, pm_st (pm_st (pm_st (pm_st S 5 j3 (S 5 j3 - S 9 2)) 6 j3 (S 6 j3 + 1)) 4 j11 (pm_sm (S 4 j11) j7 0)) 7 j7 (S 7 j7 + 1)) := by simp only [pm_aArgue, pm_ix_in hj3 (show (3 : Nat) < 2 ^ 31 by decide), pm_ix_in hj7 (show (3 : Nat) < 2 ^ 31 by decide), pm_ix_in hj11 (show (30 : Nat) < 2 ^ 31 by decide)] <;> ((repeat' split) <;> first | rfl | (exfalso; omega))
                exact W.iret hx hb hr (fun t ht _ => ⟨⟨_, (), rfl, (by rw [E]), (by show va_P D vwCl (pm_shS y q (pm_aArgue S (nI j3) (nI j7) (nI j11)).2) t.heap; rw [ht]; exact (by rw [E]; exact hP))⟩, hS.F ht⟩) hS.2.2 dX2_argueAgainst_136
              · skip
                refine lv_aload_n hx hb dX2_argueAgainst_95 rfl (lv_at hl 1 rfl) ?_
                refine va_get (D := D) (ci := 2) (v := .ref (q 8)) (C := RX2) (T := TX2) (N := 15) hx hb hts hin2 hown hK hP 0 rfl rfl 7 (by decide) (hts (.fieldLink RX2 33 "ProofMarks$Sheet" "points" "[I") (List.mem_of_getElem? (i := 2) rfl)) (fun _ h9 => h9) rfl dX2_argueAgainst_96 ?_
                refine lv_iload_n hx hb dX2_argueAgainst_99 rfl (lv_at hl 3 rfl) ?_
                refine lv_dup2_11 hx hb dX2_argueAgainst_100 rfl rfl ?_
                refine kx_iald (v := nI ((updN (S 5) j3 (((S 5) j3) - ((S 9) 2))) j7)) hx hb hK hP 8 0 rfl rfl (by omega) (by decide) rfl dX2_argueAgainst_101 ?_
                refine lv_topi (fun x25 e26 => ?_)
                obtain rfl : x25 = nI (S 5 j7) := e26.trans (congrArg nI (updN_n _ _ (by omega)))
                have := hI.pts j7 hj7
                refine lv_iload hx hb dX2_argueAgainst_102 (lv_at hl 0 rfl) ?_
                refine kx_isub hx hb (by omega) dX2_argueAgainst_104 ?_
                refine kx_iast (ws' := pm_sh y q (pm_vn (S 9)) (pm_vn (S 0)) (pm_vt (S 4)) (pm_vc (S 4)) (pm_vn (S 1)) (pm_vn (S 2)) (pm_vi (S 3)) (pm_vn (updN (updN (S 5) j3 (((S 5) j3) - ((S 9) 2))) j7 ((S 5 j7) - ((S 9) 2)))) (pm_vn (updN (S 6) j3 (((S 6) j3) + 1))) (pm_vn (S 7)) (pm_vn (S 8)) (pm_vn (S 11)) (nI (S 10 0)) (nI (S 10 1)) (nI (S 10 2))) hx hb hK hP hD hS 8 0 rfl rfl (by omega) (by decide) (pm_vn_u (updN (S 5) j3 (((S 5) j3) - ((S 9) 2))) j7 ((S 5 j7) - ((S 9) 2))) rfl dX2_argueAgainst_105 (fun H locs hP hD hS => ?_)
                refine lv_iconst (v := nI 0) hx hb dX2_argueAgainst_106 (by decide) ?_
                have E : pm_aArgue S (nI j3) (nI j7) (nI j11) = (nI 0, pm_st (pm_st (pm_st S 5 j3 (S 5 j3 - S 9 2)) 6 j3 (S 6 j3 + 1)) 5 j7 (S 5 j7 - S 9 2)) := by simp only [pm_aArgue, pm_ix_in hj3 (show (3 : Nat) < 2 ^ 31 by decide), pm_ix_in hj7 (show (3 : Nat) < 2 ^ 31 by decide), pm_ix_in hj11 (show (30 : Nat) < 2 ^ 31 by decide)] <;> ((repeat' split) <;> first | rfl | (exfalso; omega))
                exact W.iret hx hb hr (fun t ht _ => ⟨⟨_, (), rfl, (by rw [E]), (by show va_P D vwCl (pm_shS y q (pm_aArgue S (nI j3) (nI j7) (nI j11)).2) t.heap; rw [ht]; exact (by rw [E]; exact hP))⟩, hS.F ht⟩) hS.2.2 dX2_argueAgainst_107
            · skip
              refine lv_bipush (v := (-5)) hx hb dX2_argueAgainst_60 (by decide) ?_
              have E : pm_aArgue S (nI j3) (nI j7) (nI j11) = ((-5), S) := by simp only [pm_aArgue, pm_ix_in hj3 (show (3 : Nat) < 2 ^ 31 by decide), pm_ix_in hj7 (show (3 : Nat) < 2 ^ 31 by decide), pm_ix_in hj11 (show (30 : Nat) < 2 ^ 31 by decide)] <;> ((repeat' split) <;> first | rfl | (exfalso; omega))
              exact W.iret hx hb hr (fun t ht _ => ⟨⟨_, (), rfl, (by rw [E]), (by show va_P D vwCl (pm_shS y q (pm_aArgue S (nI j3) (nI j7) (nI j11)).2) t.heap; rw [ht]; exact (by rw [E]; exact hP))⟩, hS.F ht⟩) hS.2.2 dX2_argueAgainst_62
        · skip
          refine lv_bipush (v := (-2)) hx hb dX2_argueAgainst_28 (by decide) ?_
          have E : pm_aArgue S (nI j3) (nI j7) (nI j11) = ((-2), S) := by simp only [pm_aArgue, pm_ix_in hj3 (show (3 : Nat) < 2 ^ 31 by decide), pm_ix_in hj7 (show (3 : Nat) < 2 ^ 31 by decide), pm_ix_in hj11 (show (30 : Nat) < 2 ^ 31 by decide)] <;> ((repeat' split) <;> first | rfl | (exfalso; omega))
          exact W.iret hx hb hr (fun t ht _ => ⟨⟨_, (), rfl, (by rw [E]), (by show va_P D vwCl (pm_shS y q (pm_aArgue S (nI j3) (nI j7) (nI j11)).2) t.heap; rw [ht]; exact (by rw [E]; exact hP))⟩, hS.F ht⟩) hS.2.2 dX2_argueAgainst_30
      · skip
        refine lv_if_ne (tgt := 23) hx hb dX2_argueAgainst_18 (by decide) (fun c27 => (c27 (by decide)).elim) (fun _ => ?_)
        refine lv_iconst (v := -1) hx hb dX2_argueAgainst_21 (by decide) ?_
        have E : pm_aArgue S (nI j3) (nI j7) xf = (-1, S) := by simp only [pm_aArgue, pm_ix_in hj3 (show (3 : Nat) < 2 ^ 31 by decide), pm_ix_in hj7 (show (3 : Nat) < 2 ^ 31 by decide), pm_ix_out hnj11] <;> ((repeat' split) <;> first | rfl | (exfalso; omega))
        exact W.iret hx hb hr (fun t ht _ => ⟨⟨_, (), rfl, (by rw [E]), (by show va_P D vwCl (pm_shS y q (pm_aArgue S (nI j3) (nI j7) xf).2) t.heap; rw [ht]; exact (by rw [E]; exact hP))⟩, hS.F ht⟩) hS.2.2 dX2_argueAgainst_22
    · skip
      refine lv_if_eq (tgt := 21) hx hb dX2_argueAgainst_11 (by decide) (fun _ => ?_) (fun c28 => (c28 (by decide)).elim)
      refine lv_iconst (v := -1) hx hb dX2_argueAgainst_21 (by decide) ?_
      have E : pm_aArgue S (nI j3) xo xf = (-1, S) := by simp only [pm_aArgue, pm_ix_in hj3 (show (3 : Nat) < 2 ^ 31 by decide), pm_ix_out hnj7] <;> ((repeat' split) <;> first | rfl | (exfalso; omega))
      exact W.iret hx hb hr (fun t ht _ => ⟨⟨_, (), rfl, (by rw [E]), (by show va_P D vwCl (pm_shS y q (pm_aArgue S (nI j3) xo xf).2) t.heap; rw [ht]; exact (by rw [E]; exact hP))⟩, hS.F ht⟩) hS.2.2 dX2_argueAgainst_22
  · skip
    refine lv_if_eq (tgt := 21) hx hb dX2_argueAgainst_4 (by decide) (fun _ => ?_) (fun c29 => (c29 (by decide)).elim)
    refine lv_iconst (v := -1) hx hb dX2_argueAgainst_21 (by decide) ?_
    have E : pm_aArgue S xe xo xf = (-1, S) := by simp only [pm_aArgue, pm_ix_out hnj3] <;> ((repeat' split) <;> first | rfl | (exfalso; omega))
    exact W.iret hx hb hr (fun t ht _ => ⟨⟨_, (), rfl, (by rw [E]), (by show va_P D vwCl (pm_shS y q (pm_aArgue S xe xo xf).2) t.heap; rw [ht]; exact (by rw [E]; exact hP))⟩, hS.F ht⟩) hS.2.2 dX2_argueAgainst_22

