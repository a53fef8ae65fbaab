theorem pq_undo_r {Bs : Nat → Nat → Nat → Nat} {pi : Nat → Nat} {kn : Nat} (h : pq_C pi kn) (S : Nat → Nat → Nat) {v : Nat} (hv : v < 2 ^ 31) : 0 < pm_rk kn (nI v) ∧ pm_ub Bs (pi kn) S (pm_rp pi kn (nI v) (pm_rk kn (nI v) - 1)) = S := by
  have e1 : pm_rp pi kn (nI v) = pm_kp pi kn := if_neg (nI_pos hv)
  have e2 : pm_rk kn (nI v) = pm_kn kn := if_neg (nI_pos hv)
  rw [e1, e2]
  exact pq_undo h S
theorem pq_m4 {v : Nat} {P : Prop} (h : v < 2 ^ 31) (z : nI v = -4) : P := absurd (show nI v < 0 by rw [z]; decide) (nI_pos h)
def pq_ac (S : Nat → Nat → Nat) (f x c : Nat) : Nat := pm_ds S f x + if pm_mc (S 9 0) (S 4 f) x c = true then 2 ^ x else 0
theorem pq_ac0 (S : Nat → Nat → Nat) (f x : Nat) : pm_ds S f x = pq_ac S f x 0 := by
  unfold pq_ac pm_mc
  rw [if_neg (by decide)]
  rfl
theorem pq_ac3 {S : Nat → Nat → Nat} {f x : Nat} (h0 : S 0 f = 0) : pm_ds S f (x + 1) = pq_ac S f x 3 := by
  unfold pq_ac
  rw [pm_ds]
  congr 1
  by_cases h : pm_mc (S 9 0) (S 4 f) x 3 = true
  · rw [if_pos h, if_pos ⟨h0, h⟩]
  · rw [if_neg h, if_neg (fun z => h z.2)]
theorem pq_ac_p {S : Nat → Nat → Nat} {f x c : Nat} (h : (pm_wd (S 9 0) (pm_sm (S 4 f) x c) != pm_wd (S 9 0) (S 4 f)) = true) : pq_ac S f x (c + 1) = pm_ds S f x + 2 ^ x := by
  unfold pq_ac
  rw [if_pos (by rw [pm_mc, h, Bool.or_true])]
theorem pq_ac_n {S : Nat → Nat → Nat} {f x c : Nat} (h : (pm_wd (S 9 0) (pm_sm (S 4 f) x c) != pm_wd (S 9 0) (S 4 f)) = false) : pq_ac S f x (c + 1) = pq_ac S f x c := by
  unfold pq_ac
  rw [pm_mc, h, Bool.or_false]
theorem pq_T3 : ∀ x, x < 3 → ∀ d, d < 8 → (d < 2 ^ x → nI d ||| nI (2 ^ x) = nI (d + 2 ^ x) ∧ nI (d + 2 ^ x) ||| nI (2 ^ x) = nI (d + 2 ^ x) ∧ nI d ||| nI 0 = nI d ∧ nI (d + 2 ^ x) ||| nI 0 = nI (d + 2 ^ x)) := by decide +kernel
theorem pq_d8 {S : Nat → Nat → Nat} {f x : Nat} (hx : x < 3) : pm_ds S f x < 8 := Nat.lt_of_lt_of_le (pm_ds_lt S f x) (Nat.pow_le_pow_right (by decide) (by omega : x ≤ 3))
theorem pq_or1 {S : Nat → Nat → Nat} {f x c : Nat} (hx : x < 3) : nI (pq_ac S f x c) ||| nI (2 ^ x) = nI (pm_ds S f x + 2 ^ x) := by
  obtain ⟨a, b, -, -⟩ := pq_T3 x hx _ (pq_d8 (S := S) (f := f) hx) (pm_ds_lt S f x)
  unfold pq_ac
  split
  · exact b
  · exact a
theorem pq_or0 {S : Nat → Nat → Nat} {f x c : Nat} (hx : x < 3) : nI (pq_ac S f x c) ||| nI 0 = nI (pq_ac S f x c) := by
  obtain ⟨-, -, a, b⟩ := pq_T3 x hx _ (pq_d8 (S := S) (f := f) hx) (pm_ds_lt S f x)
  unfold pq_ac
  split
  · exact b
  · exact a
theorem pq_or2 {S : Nat → Nat → Nat} {f x : Nat} (hx : x < 3) : nI (pm_ds S f x + 2 ^ x) ||| nI 0 = nI (pm_ds S f x + 2 ^ x) := (pq_T3 x hx _ (pq_d8 (S := S) (f := f) hx) (pm_ds_lt S f x)).2.2.2
def pq_T4b (m i : Nat) : Bool := !(pm_okb m) || !(decide (pm_ck (pm_sm m i 2) = 0))
theorem pq_T4 : ∀ m, m < 64 → ∀ i, i < 3 → pq_T4b m i = true := by decide +kernel
theorem pq_wd2 {n m i : Nat} (h : pm_okb m = true) (hi : i < 3) : pm_wd n (pm_sm m i 2) = false := by
  have a := pq_T4 m (pm_okb64 h) i hi
  simp only [pq_T4b, h, Bool.not_true, Bool.false_or, Bool.not_eq_true', decide_eq_false_iff_not] at a
  exact pm_wd_f (fun z => a z.1)
theorem pq_df1 {a b : Bool} (ha : a = true) (hb : b = false) : (a != b) = true := by rw [ha, hb]; rfl
theorem pq_df2 {a b : Bool} (ha : a = false) (hb : b = true) : (a != b) = true := by rw [ha, hb]; rfl
theorem pq_df3 {a b : Bool} (ha : a = true) (hb : b = true) : (a != b) = false := by rw [ha, hb]; rfl
theorem pq_df4 {a b : Bool} (ha : a = false) (hb : b = false) : (a != b) = false := by rw [ha, hb]; rfl
theorem pq_wyt {S : Nat → Nat → Nat} {f : Nat} (h0 : S 0 f = 0) (h : pq_wy S f = 0) : pm_wd (S 9 0) (S 4 f) = true := (pq_wyi h0).mp h
theorem pq_wyf {S : Nat → Nat → Nat} {f : Nat} (h0 : S 0 f = 0) (h : ¬ pq_wy S f = 0) : pm_wd (S 9 0) (S 4 f) = false := by
  cases hw : pm_wd (S 9 0) (S 4 f) with
  | false => rfl
  | true => exact absurd ((pq_wyi h0).mpr hw) h
theorem pq_mrk {S : Nat → Nat → Nat} {x f c : Nat} (hx : x < 3) (hf : f < 30) (hc : c < 3) (h0 : S 0 f = 0) :
    (c = 2 ∧ ¬ pm_mk (S 4 f) x = 2 ∧ S 9 1 ≤ pm_cnt S x 2 30 ∧ pm_aMark S (nI x) (nI f) (nI c) = (-4, S)) ∨
    (¬ (c = 2 ∧ ¬ pm_mk (S 4 f) x = 2 ∧ S 9 1 ≤ pm_cnt S x 2 30) ∧ ∃ T, pm_aMark S (nI x) (nI f) (nI c) = (nI (pm_mk (S 4 f) x), T) ∧ T 4 f = pm_sm (S 4 f) x c ∧ (∀ j, T 0 j = S 0 j) ∧ T 9 = S 9) := by
  have e : pm_aMark S (nI x) (nI f) (nI c) = if S 0 f ≠ 0 then (-5, S) else if c = 2 ∧ pm_mk (S 4 f) x ≠ 2 ∧ S 9 1 ≤ pm_cnt S x 2 30 then (-4, S) else (nI (pm_mk (S 4 f) x), pm_st S 4 f (pm_sm (S 4 f) x c)) := by
    simp only [pm_aMark, pm_ix_in hx (show (3 : Nat) < 2 ^ 31 by decide), pm_ix_in hf (show (30 : Nat) < 2 ^ 31 by decide), pm_ix_in hc (show (3 : Nat) < 2 ^ 31 by decide)]
  rw [e, if_neg (fun z => z h0)]
  by_cases h : c = 2 ∧ pm_mk (S 4 f) x ≠ 2 ∧ S 9 1 ≤ pm_cnt S x 2 30
  · rw [if_pos h]; exact Or.inl ⟨h.1, h.2.1, h.2.2, rfl⟩
  · rw [if_neg h]
    exact Or.inr ⟨h, _, rfl, pm_st_s _ _ _ _, fun j => by rw [pm_st_o (by decide)], pm_st_o (by decide)⟩

set_option maxHeartbeats 4000000 in
set_option maxRecDepth 100000 in
theorem k_L_isDecided (l : Launch) (D : va_G) (y : Nat → ClassId) (L : Nat → Nat → Nat) (S : Nat → Nat → Nat) (Bs : Nat → Nat → Nat → Nat) (pi : Nat → Nat) (kn : Nat) (Gs : Nat → Nat → Nat → Nat) (sv : Nat → Nat) (U : pm_PT) (f : Nat) (hI : pq_I S) (hC : pq_C pi kn) (hf : f < 30) : Met l yL_isDecided wsL_isDecided ({ frames := 5, cells := 0, slots := 0, locals := 115 } : Room) (pm_wrn D (pm_ty y) [.ref (L 0 0), .int (nI f)] (pm_cl y L S Bs pi kn Gs sv U)) (pm_Qi D (fun (r : Int32) (u : pq_T) => r = nI 1 ∧ pq_I u.1 ∧ pq_C u.2.2.1 u.2.2.2) (fun (u : pq_T) => pm_cl y L u.1 u.2.1 u.2.2.1 u.2.2.2 Gs sv U) (pm_cl y L S Bs pi kn Gs sv U)) 0 0 (pm_ad (pm_cl y L S Bs pi kn Gs sv U)) := by
  refine Met.ofW (cc := cL_isDecided) (maxL := 10) (ret := (some .boolean)) (by decide) rfl ?_
  intro p e s m args below meth c s₁ B hml hpre
  obtain ⟨rfl, ⟨hP, hK, hD0⟩, hN⟩ := hpre
  have hx := B.exec
  have hb := B.bytes
  have hr := B.returns
  have hts := atoms_spec (ws := wsL_isDecided) B.pre
  have hown : s.vm.findClass RL = some m.cls := findClass_of_methodNamed B.named
  have hlocks := B.notSynchronized
  have hin3 : ∀ w ∈ u_ws RX3 TX3 5, w ∈ wsL_isDecided := fun w h => List.mem_cons_of_mem _ (List.mem_append_left _ (List.mem_append_left _ (List.mem_append_left _ (List.mem_append_right _ h))))
  have hin2 : ∀ w ∈ u_ws RX2 TX2 15, w ∈ wsL_isDecided := fun w h => List.mem_cons_of_mem _ (List.mem_append_left _ (List.mem_append_left _ (List.mem_append_right _ h)))
  have hin1 : ∀ w ∈ u_ws RX1 TX1 8, w ∈ wsL_isDecided := fun w h => List.mem_cons_of_mem _ (List.mem_append_left _ (List.mem_append_right _ h))
  have hin0 : ∀ w ∈ u_ws RX0 TX0 2, w ∈ wsL_isDecided := fun w h => List.mem_cons_of_mem _ (List.mem_append_right _ h)
  have hD := pm_ad_self hD0
  have hS : va_S (pm_ad (pm_cl y L S Bs pi kn Gs sv U)) s.heap s.heap [] := va_S.rf
  have hP : va_P D vwCl (pm_cl y L S Bs pi kn Gs sv U) s.heap := hP
  have hl := lv_entry ([.ref (L 0 0), .int (nI f)]) (n := 10) (Nat.le_of_ble_eq_true rfl)
  rw [lg_entry_eq]
  generalize (lg_sl ([.ref (L 0 0), .int (nI f)]) ++ List.replicate (10 - (lg_sl ([.ref (L 0 0), .int (nI f)])).length) Slot.unset).toArray = ls at hl ⊢
  have hl : lv_has ls 10 [(0, .ref (L 0 0)), (1, .int (nI f))] := hl
  refine lv_aload_n hx hb dL_isDecided_0 rfl (lv_at hl 0 rfl) ?_
  refine lv_iload_n hx hb dL_isDecided_1 rfl (lv_at hl 1 rfl) ?_
  refine vp_callSi (W.runV (As := [.int (nI f)]) (rest := []) ⟨hx, hb, hml, hown, hts⟩ (k_X3_decides l D y L S Bs pi kn Gs sv U Bs Gs (nI f) hI.1) (cwV 1 hts gL_isDecided_X3_decides rfl rfl rfl hd_X3_decides ⟨Nat.le_of_ble_eq_true rfl, Nat.le_of_ble_eq_true rfl⟩) ⟨pm_ro_blind, va_recv hK hP (ci := 3) (q0 := 0) rfl rfl, pm_ro_pre hP hK⟩ rfl rfl hl.1 rfl (lv_room (Nat.le_of_ble_eq_true rfl)) dL_isDecided_2 ⟨Nat.le_of_ble_eq_true rfl, Nat.le_of_ble_eq_true rfl⟩) (fun r1 h2 => ?_)
  obtain rfl : r1 = nI (pm_ds S f 3) := h2.trans (pq_dec (by omega))
  have := pm_ds_lt S f 3
  refine lv_istore_n (lv' := [(2, .int (nI (pm_ds S f 3))), (0, .ref (L 0 0)), (1, .int (nI f))]) hx hb dL_isDecided_5 rfl hl (by decide) rfl (fun ls hl => ?_)
  refine lv_iconst (v := nI 0) hx hb dL_isDecided_6 (by decide) ?_
  refine lv_istore_n (lv' := [(3, .int (nI 0)), (2, .int (nI (pm_ds S f 3))), (0, .ref (L 0 0)), (1, .int (nI f))]) hx hb dL_isDecided_7 rfl hl (by decide) rfl (fun ls hl => ?_)
  refine lv_aload_n hx hb dL_isDecided_8 rfl (lv_at hl 2 rfl) ?_
  refine lv_bipush (v := nI 12) hx hb dL_isDecided_9 (by decide) ?_
  refine vp_callSi (W.runV (As := [.int (nI 12)]) (rest := []) ⟨hx, hb, hml, hown, hts⟩ (k_X3_count l D y L S Bs pi kn Gs sv U Bs Gs (nI 12) hI.1) (cwV 1 hts gL_isDecided_X3_count rfl rfl rfl hd_X3_count ⟨Nat.le_of_ble_eq_true rfl, Nat.le_of_ble_eq_true rfl⟩) ⟨pm_ron_blind, va_recv hK hP (ci := 3) (q0 := 0) rfl rfl, pm_ron_pre hP hK hN⟩ rfl rfl hl.1 rfl (lv_room (Nat.le_of_ble_eq_true rfl)) dL_isDecided_11 ⟨Nat.le_of_ble_eq_true rfl, Nat.le_of_ble_eq_true rfl⟩) (fun r3 h4 => ?_)
  obtain rfl : r3 = nI (S 9 1) := h4.trans (pq_co12)
  have := hI.1.set
  refine lv_istore (lv' := [(4, .int (nI (S 9 1))), (3, .int (nI 0)), (2, .int (nI (pm_ds S f 3))), (0, .ref (L 0 0)), (1, .int (nI f))]) hx hb dL_isDecided_14 hl (by decide) rfl (fun ls hl => ?_)
  refine lv_aload_n hx hb dL_isDecided_16 rfl (lv_at hl 3 rfl) ?_
  refine lv_iload_n hx hb dL_isDecided_17 rfl (lv_at hl 4 rfl) ?_
  refine lv_iconst (v := nI 0) hx hb dL_isDecided_18 (by decide) ?_
  refine vp_callSi (W.runV (As := [.int (nI f), .int (nI 0)]) (rest := []) ⟨hx, hb, hml, hown, hts⟩ (k_X3_of l D y L S Bs pi kn Gs sv U Bs Gs (nI f) (nI 0) hI.1) (cwV 2 hts gL_isDecided_X3_of rfl rfl rfl hd_X3_of ⟨Nat.le_of_ble_eq_true rfl, Nat.le_of_ble_eq_true rfl⟩) ⟨pm_ro_blind, va_recv hK hP (ci := 3) (q0 := 0) rfl rfl, pm_ro_pre hP hK⟩ rfl rfl hl.1 rfl (lv_room (Nat.le_of_ble_eq_true rfl)) dL_isDecided_19 ⟨Nat.le_of_ble_eq_true rfl, Nat.le_of_ble_eq_true rfl⟩) (fun r5 h6 => ?_)
  obtain rfl : r5 = nI (S 0 f) := h6.trans (pq_of0 (by omega))
  have := hI.1.how f (by omega)
  refine kx_if_eq (tgt := 35) hx hb (by omega) dL_isDecided_22 (by decide) (fun c7 => ?_) (fun c7 => ?_)
  · skip
    have h0 : S 0 f = 0 := by omega
    refine lv_iconst (v := nI 0) hx hb dL_isDecided_35 (by decide) ?_
    refine lv_istore (lv' := [(5, .int (nI 0)), (4, .int (nI (S 9 1))), (3, .int (nI 0)), (2, .int (nI (pm_ds S f 3))), (0, .ref (L 0 0)), (1, .int (nI f))]) hx hb dL_isDecided_36 hl (by decide) rfl (fun ls hl => ?_)
    have LOOP38 : ∀ (n x : Nat) (ls : Array Slot) (H : Heap) (locs : List Loc) (u : (Nat → Nat → Nat → Nat) × (Nat → Nat) × Nat), va_P D vwCl (pm_cl y L S u.1 u.2.1 u.2.2 Gs sv U) H → va_D (pm_ad (pm_cl y L S Bs pi kn Gs sv U)) (pm_cl y L S u.1 u.2.1 u.2.2 Gs sv U) → va_S (pm_ad (pm_cl y L S Bs pi kn Gs sv U)) s.heap H locs → x ≤ 3 → 3 - x < n → lv_has ls 10 [(0, .ref (L 0 0)), (1, .int (nI f)), (2, .int (nI (pm_ds S f 3))), (3, .int (nI (pm_ds S f x))), (4, .int (nI (S 9 1))), (5, .int (nI x))] → (pq_C u.2.1 u.2.2) → W p l e (headSpec wsL_isDecided ({ frames := 5, cells := 0, slots := 0, locals := 115 } : Room)).room s m ([.ref (L 0 0), .int (nI f)] : List Value).toArray below meth c H locs 0 0 (MQ below (pm_Qi D (fun (r : Int32) (u : pq_T) => r = nI 1 ∧ pq_I u.1 ∧ pq_C u.2.2.1 u.2.2.2) (fun (u : pq_T) => pm_cl y L u.1 u.2.1 u.2.2.1 u.2.2.2 Gs sv U) (pm_cl y L S Bs pi kn Gs sv U)) ([.ref (L 0 0), .int (nI f)] : List Value).toArray s 0 0 (pm_ad (pm_cl y L S Bs pi kn Gs sv U))) (F0 m 38 ls []) := by
      intro n
      induction n with
      | zero => intro x _ _ _ _ _ _ _ hi hn; omega
      | succ n ih8 =>
        intro x ls H locs u hP hD hS hi_x hn_x hl hh38_0
        refine lv_iload hx hb dL_isDecided_38 (lv_at hl 5 rfl) ?_
        refine lv_iconst (v := nI 3) hx hb dL_isDecided_40 (by decide) ?_
        refine kx_icmp_ge (tgt := 185) hx hb (by omega) (by decide) dL_isDecided_41 (by decide) (fun c9 => ?_) (fun c9 => ?_)
        · skip
          obtain rfl : x = 3 := by omega
          refine lv_iload_n hx hb dL_isDecided_185 rfl (lv_at hl 2 rfl) ?_
          refine lv_iload_n hx hb dL_isDecided_186 rfl (lv_at hl 3 rfl) ?_
          refine kx_icmp_ne (tgt := 205) hx hb (by omega) (by omega) dL_isDecided_187 (by decide) (fun c10 => by exfalso; omega) (fun c10 => ?_)
          refine lv_iload hx hb dL_isDecided_190 (lv_at hl 4 rfl) ?_
          refine lv_aload_n hx hb dL_isDecided_192 rfl (lv_at hl 0 rfl) ?_
          refine lv_bipush (v := nI 12) hx hb dL_isDecided_193 (by decide) ?_
          refine vp_callSi (W.runV (As := [.int (nI 12)]) (rest := [.int (nI (S 9 1))]) ⟨hx, hb, hml, hown, hts⟩ (k_X3_count l D y L S u.1 u.2.1 u.2.2 Gs sv U Bs Gs (nI 12) hI.1) (cwV 1 hts gL_isDecided_X3_count rfl rfl rfl hd_X3_count ⟨Nat.le_of_ble_eq_true rfl, Nat.le_of_ble_eq_true rfl⟩) ⟨pm_ron_blind, va_recv hK hP (ci := 3) (q0 := 0) rfl rfl, pm_ron_pre hP hK hN⟩ rfl rfl hl.1 rfl (lv_room (Nat.le_of_ble_eq_true rfl)) dL_isDecided_195 ⟨Nat.le_of_ble_eq_true rfl, Nat.le_of_ble_eq_true rfl⟩) (fun r11 h12 => ?_)
          obtain rfl : r11 = nI (S 9 1) := h12.trans (pq_co12)
          have := hI.1.set
          refine kx_icmp_ne (tgt := 205) hx hb (by omega) (by omega) dL_isDecided_198 (by decide) (fun c13 => by exfalso; omega) (fun c13 => ?_)
          refine lv_iconst (v := nI 1) hx hb dL_isDecided_201 (by decide) ?_
          refine lv_goto (tgt := 206) hx hb dL_isDecided_202 (by decide) ?_
          exact W.zret (ty := .boolean) hx hb hr rfl (fun t ht _ => ⟨⟨_, (S, u.1, u.2.1, u.2.2), rfl, ⟨rfl, hI, hh38_0⟩, (by show va_P D vwCl (pm_cl y L S u.1 u.2.1 u.2.2 Gs sv U) t.heap; rw [ht]; exact hP)⟩, hS.F ht⟩) hS.2.2 dL_isDecided_206
        · skip
          refine lv_aload_n hx hb dL_isDecided_44 rfl (lv_at hl 0 rfl) ?_
          refine lv_iload hx hb dL_isDecided_45 (lv_at hl 5 rfl) ?_
          refine lv_iload_n hx hb dL_isDecided_47 rfl (lv_at hl 1 rfl) ?_
          refine vp_callSi (W.runS (As := [.ref (L 0 0), .int (nI x), .int (nI f)]) (rest := []) ⟨hx, hb, hml, hown, hts⟩ (k_L_mark l D y L S u.1 u.2.1 u.2.2 Gs sv U x f hI (by omega) (by omega)) (va_cwS 3 hts gL_isDecided_L_mark rfl rfl rfl hd_L_mark ⟨Nat.le_of_ble_eq_true rfl, Nat.le_of_ble_eq_true rfl⟩) ⟨pm_ro_blind, pm_ro_pre hP hK⟩ rfl rfl hl.1 rfl (lv_room (Nat.le_of_ble_eq_true rfl)) dL_isDecided_48 ⟨Nat.le_of_ble_eq_true rfl, Nat.le_of_ble_eq_true rfl⟩) (fun r14 h15 => ?_)
          obtain rfl : r14 = nI (pm_mk (S 4 f) x) := h15
          have := pm_mk3 (hI.1.okm f (by omega)) (show x < 3 by omega)
          refine lv_istore (lv' := [(6, .int (nI (pm_mk (S 4 f) x))), (0, .ref (L 0 0)), (1, .int (nI f)), (2, .int (nI (pm_ds S f 3))), (3, .int (nI (pm_ds S f x))), (4, .int (nI (S 9 1))), (5, .int (nI x))]) hx hb dL_isDecided_51 hl (by decide) rfl (fun ls hl => ?_)
          refine lv_aload_n hx hb dL_isDecided_53 rfl (lv_at hl 1 rfl) ?_
          refine lv_iload_n hx hb dL_isDecided_54 rfl (lv_at hl 2 rfl) ?_
          refine vp_callSi (W.runV (As := [.int (nI f)]) (rest := []) ⟨hx, hb, hml, hown, hts⟩ (k_X3_why l D y L S u.1 u.2.1 u.2.2 Gs sv U Bs Gs (nI f) hI.1) (cwV 1 hts gL_isDecided_X3_why rfl rfl rfl hd_X3_why ⟨Nat.le_of_ble_eq_true rfl, Nat.le_of_ble_eq_true rfl⟩) ⟨pm_ro_blind, va_recv hK hP (ci := 3) (q0 := 0) rfl rfl, pm_ro_pre hP hK⟩ rfl rfl hl.1 rfl (lv_room (Nat.le_of_ble_eq_true rfl)) dL_isDecided_55 ⟨Nat.le_of_ble_eq_true rfl, Nat.le_of_ble_eq_true rfl⟩) (fun r16 h17 => ?_)
          obtain rfl : r16 = nI (pq_wy S f) := h17.trans (pq_whn (by omega))
          have := pq_wy4 S f
          refine kx_if_ne (tgt := 65) hx hb (by omega) dL_isDecided_58 (by decide) (fun c18 => ?_) (fun c18 => ?_)
          · skip
            refine lv_iconst (v := nI 0) hx hb dL_isDecided_65 (by decide) ?_
            have hin : pm_wd (S 9 0) (S 4 f) = false := pq_wyf h0 (by omega)
            refine lv_istore (lv' := [(7, .int (nI 0)), (6, .int (nI (pm_mk (S 4 f) x))), (0, .ref (L 0 0)), (1, .int (nI f)), (2, .int (nI (pm_ds S f 3))), (3, .int (nI (pm_ds S f x))), (4, .int (nI (S 9 1))), (5, .int (nI x))]) hx hb dL_isDecided_66 hl (by decide) rfl (fun ls hl => ?_)
            refine lv_iconst (v := nI 0) hx hb dL_isDecided_68 (by decide) ?_
            refine lv_istore (lv' := [(8, .int (nI 0)), (7, .int (nI 0)), (6, .int (nI (pm_mk (S 4 f) x))), (0, .ref (L 0 0)), (1, .int (nI f)), (2, .int (nI (pm_ds S f 3))), (3, .int (nI (pm_ds S f x))), (4, .int (nI (S 9 1))), (5, .int (nI x))]) hx hb dL_isDecided_69 hl (by decide) rfl (fun ls hl => ?_)
            have LOOP71 : ∀ (n c1 : Nat) (ls : Array Slot) (H : Heap) (locs : List Loc) (u : (Nat → Nat → Nat → Nat) × (Nat → Nat) × Nat), va_P D vwCl (pm_cl y L S u.1 u.2.1 u.2.2 Gs sv U) H → va_D (pm_ad (pm_cl y L S Bs pi kn Gs sv U)) (pm_cl y L S u.1 u.2.1 u.2.2 Gs sv U) → va_S (pm_ad (pm_cl y L S Bs pi kn Gs sv U)) s.heap H locs → c1 ≤ 3 → 3 - c1 < n → lv_has ls 10 [(0, .ref (L 0 0)), (1, .int (nI f)), (2, .int (nI (pm_ds S f 3))), (3, .int (nI (pq_ac S f x c1))), (4, .int (nI (S 9 1))), (5, .int (nI x)), (6, .int (nI (pm_mk (S 4 f) x))), (7, .int (nI 0)), (8, .int (nI c1))] → (pq_C u.2.1 u.2.2) → W p l e (headSpec wsL_isDecided ({ frames := 5, cells := 0, slots := 0, locals := 115 } : Room)).room s m ([.ref (L 0 0), .int (nI f)] : List Value).toArray below meth c H locs 0 0 (MQ below (pm_Qi D (fun (r : Int32) (u : pq_T) => r = nI 1 ∧ pq_I u.1 ∧ pq_C u.2.2.1 u.2.2.2) (fun (u : pq_T) => pm_cl y L u.1 u.2.1 u.2.2.1 u.2.2.2 Gs sv U) (pm_cl y L S Bs pi kn Gs sv U)) ([.ref (L 0 0), .int (nI f)] : List Value).toArray s 0 0 (pm_ad (pm_cl y L S Bs pi kn Gs sv U))) (F0 m 71 ls []) := by
              intro n
              induction n with
              | zero => intro c1 _ _ _ _ _ _ _ hi hn; omega
              | succ n ih19 =>
                intro c1 ls H locs u hP hD hS hi_c1 hn_c1 hl hh71_0
                refine lv_iload hx hb dL_isDecided_71 (lv_at hl 8 rfl) ?_
                refine lv_iconst (v := nI 3) hx hb dL_isDecided_73 (by decide) ?_
                refine kx_icmp_ge (tgt := 165) hx hb (by omega) (by decide) dL_isDecided_74 (by decide) (fun c20 => ?_) (fun c20 => ?_)
                · skip
                  obtain rfl : c1 = 3 := by omega
                  refine lv_aload_n hx hb dL_isDecided_165 rfl (lv_at hl 0 rfl) ?_
                  refine lv_iload hx hb dL_isDecided_166 (lv_at hl 5 rfl) ?_
                  refine lv_iload_n hx hb dL_isDecided_168 rfl (lv_at hl 1 rfl) ?_
                  refine vp_callSi (W.runS (As := [.ref (L 0 0), .int (nI x), .int (nI f)]) (rest := []) ⟨hx, hb, hml, hown, hts⟩ (k_L_mark l D y L S u.1 u.2.1 u.2.2 Gs sv U x f hI (by omega) (by omega)) (va_cwS 3 hts gL_isDecided_L_mark rfl rfl rfl hd_L_mark ⟨Nat.le_of_ble_eq_true rfl, Nat.le_of_ble_eq_true rfl⟩) ⟨pm_ro_blind, pm_ro_pre hP hK⟩ rfl rfl hl.1 rfl (lv_room (Nat.le_of_ble_eq_true rfl)) dL_isDecided_169 ⟨Nat.le_of_ble_eq_true rfl, Nat.le_of_ble_eq_true rfl⟩) (fun r21 h22 => ?_)
                  obtain rfl : r21 = nI (pm_mk (S 4 f) x) := h22
                  have := pm_mk3 (hI.1.okm f (by omega)) (show x < 3 by omega)
                  refine lv_iload hx hb dL_isDecided_172 (lv_at hl 6 rfl) ?_
                  refine kx_icmp_eq (tgt := 179) hx hb (by omega) (by omega) dL_isDecided_174 (by decide) (fun c23 => ?_) (fun c23 => by exfalso; omega)
                  refine kx_iinc (a := x) (lv' := [(5, .int (nI (x + 1))), (0, .ref (L 0 0)), (1, .int (nI f)), (2, .int (nI (pm_ds S f 3))), (3, .int (nI (pq_ac S f x 3))), (4, .int (nI (S 9 1))), (6, .int (nI (pm_mk (S 4 f) x))), (7, .int (nI 0)), (8, .int (nI 3))]) hx hb dL_isDecided_179 hl (k := 5) rfl (by decide) rfl (fun ls hl => ?_)
                  refine lv_goto (tgt := 38) hx hb dL_isDecided_182 (by decide) ?_
                  have q24 : (nI (pm_ds S f (x + 1)) : Int32) = nI (pq_ac S f x 3) := (congrArg nI (pq_ac3 h0))
                  exact ih8 (x + 1) ls H locs (u.1, u.2.1, u.2.2) hP hD hS (by omega) (by omega) (by rw [q24]; exact lv_sub hl [1, 2, 3, 4, 5, 0] rfl) hh71_0
                · skip
                  refine lv_aload_n hx hb dL_isDecided_77 rfl (lv_at hl 0 rfl) ?_
                  refine lv_iload hx hb dL_isDecided_78 (lv_at hl 5 rfl) ?_
                  refine lv_iload_n hx hb dL_isDecided_80 rfl (lv_at hl 1 rfl) ?_
                  refine lv_iload hx hb dL_isDecided_81 (lv_at hl 8 rfl) ?_
                  rcases pq_mrk (S := S) (x := x) (f := f) (c := c1) (by omega) hf (by omega) h0 with ⟨hc2, hnm, hnv, E⟩ | ⟨hno, T, E, hT4, hT0a, hT9a⟩
                  · skip
                    refine va_calli (va_runV (As := [.int (nI x), .int (nI f), .int (nI c1)]) (rest := []) ⟨hx, hb, hml, hown, hts⟩ (k_X3_mark l D y L S u.1 u.2.1 u.2.2 Gs sv U (fun i => u.1 (u.2.1 i)) Gs (nI x) (nI f) (nI c1) (pq_CI hh71_0) hI.1) (cwV 3 hts gL_isDecided_X3_mark rfl rfl rfl hd_X3_mark ⟨Nat.le_of_ble_eq_true rfl, Nat.le_of_ble_eq_true rfl⟩) ⟨pm_wr_blind, va_recv hK hP (ci := 3) (q0 := 0) rfl rfl, pm_wr_pre hP hK hD⟩ rfl rfl hl.1 rfl (lv_room (Nat.le_of_ble_eq_true rfl)) dL_isDecided_83 ⟨Nat.le_of_ble_eq_true rfl, Nat.le_of_ble_eq_true rfl⟩) hS (fun q _ h9 => pm_ad_all hD q h9) (pm_ad_all hD) (fun r25 u30 t26 H1 locs ht27 _ h31 hB28 _ hk29 hS => ?_)
                    have hB28 : va_P D vwCl (pm_cl y L S (pm_ub u.1 (u.2.1 u.2.2) S) (pm_rp u.2.1 u.2.2 (-4)) (pm_rk u.2.2 (-4)) Gs sv U) H1 := by have h8 : va_P D vwCl (pm_cl y L (pm_aMark S (nI x) (nI f) (nI c1)).2 (pm_ub u.1 (u.2.1 u.2.2) S) (pm_rp u.2.1 u.2.2 (pm_aMark S (nI x) (nI f) (nI c1)).1) (pm_rk u.2.2 (pm_aMark S (nI x) (nI f) (nI c1)).1) Gs sv U) t26.heap := hB28; rw [E] at h8; rw [← ht27]; exact h8
                    obtain rfl : r25 = -4 := h31.trans (by rw [E])
                    obtain ⟨hP, hD⟩ := pm_all (D := D) (cl := vwCl) (H1 := H1) hD (w' := pm_cl y L S (pm_ub u.1 (u.2.1 u.2.2) S) (pm_rp u.2.1 u.2.2 (-4)) (pm_rk u.2.2 (-4)) Gs sv U) hB28 (pm_cl_fst ..)
                    have hC32 := pq_C_r hh71_0 (-4)
                    generalize pm_ub u.1 (u.2.1 u.2.2) S = Bs33 at hP hD
                    generalize pm_rp u.2.1 u.2.2 (-4) = pi34 at hP hD hC32
                    generalize pm_rk u.2.2 (-4) = kn35 at hP hD hC32
                    generalize H1 = H at hP hS ⊢
                    have hP : va_P D vwCl (pm_cl y L S Bs33 pi34 kn35 Gs sv U) H := hP
                    have hD : va_D (pm_ad (pm_cl y L S Bs pi kn Gs sv U)) (pm_cl y L S Bs33 pi34 kn35 Gs sv U) := hD
                    refine lv_istore (lv' := [(9, .int (-4)), (0, .ref (L 0 0)), (1, .int (nI f)), (2, .int (nI (pm_ds S f 3))), (3, .int (nI (pq_ac S f x c1))), (4, .int (nI (S 9 1))), (5, .int (nI x)), (6, .int (nI (pm_mk (S 4 f) x))), (7, .int (nI 0)), (8, .int (nI c1))]) hx hb dL_isDecided_86 hl (by decide) rfl (fun ls hl => ?_)
                    refine lv_iload_n hx hb dL_isDecided_88 rfl (lv_at hl 4 rfl) ?_
                    refine lv_iload hx hb dL_isDecided_89 (lv_at hl 0 rfl) ?_
                    refine lv_if_lt (tgt := 119) hx hb dL_isDecided_91 (by decide) (fun _ => ?_) (fun c36 => (c36 (by decide)).elim)
                    refine lv_iconst (v := nI 0) hx hb dL_isDecided_119 (by decide) ?_
                    refine lv_ior hx hb dL_isDecided_120 ?_
                    refine lv_topi (fun x37 e38 => ?_)
                    obtain rfl : x37 = nI (pq_ac S f x c1) := e38.trans (pq_or0 (by omega))
                    refine lv_istore_n (lv' := [(3, .int (nI (pq_ac S f x c1))), (9, .int (-4)), (0, .ref (L 0 0)), (1, .int (nI f)), (2, .int (nI (pm_ds S f 3))), (4, .int (nI (S 9 1))), (5, .int (nI x)), (6, .int (nI (pm_mk (S 4 f) x))), (7, .int (nI 0)), (8, .int (nI c1))]) hx hb dL_isDecided_121 rfl hl (by decide) rfl (fun ls hl => ?_)
                    refine lv_iload_n hx hb dL_isDecided_122 rfl (lv_at hl 0 rfl) ?_
                    refine lv_iload hx hb dL_isDecided_123 (lv_at hl 1 rfl) ?_
                    refine lv_bipush (v := (-4)) hx hb dL_isDecided_125 (by decide) ?_
                    refine lv_icmp_ne (tgt := 142) hx hb dL_isDecided_127 (by decide) (fun c39 => (c39 (by decide)).elim) (fun _ => ?_)
                    refine lv_iload hx hb dL_isDecided_130 (lv_at hl 8 rfl) ?_
                    refine lv_if_eq (tgt := 142) hx hb dL_isDecided_132 (by decide) (fun _ => ?_) (fun c40 => (c40 (by decide)).elim)
                    refine lv_iconst (v := nI 0) hx hb dL_isDecided_142 (by decide) ?_
                    refine lv_ior hx hb dL_isDecided_143 ?_
                    refine lv_topi (fun x41 e42 => ?_)
                    obtain rfl : x41 = nI (pq_ac S f x c1) := e42.trans (pq_or0 (by omega))
                    refine lv_istore_n (lv' := [(3, .int (nI (pq_ac S f x c1))), (9, .int (-4)), (0, .ref (L 0 0)), (1, .int (nI f)), (2, .int (nI (pm_ds S f 3))), (4, .int (nI (S 9 1))), (5, .int (nI x)), (6, .int (nI (pm_mk (S 4 f) x))), (7, .int (nI 0)), (8, .int (nI c1))]) hx hb dL_isDecided_144 rfl hl (by decide) rfl (fun ls hl => ?_)
                    refine lv_iload hx hb dL_isDecided_145 (lv_at hl 1 rfl) ?_
                    refine lv_if_lt (tgt := 159) hx hb dL_isDecided_147 (by decide) (fun _ => ?_) (fun c43 => (c43 (by decide)).elim)
                    refine kx_iinc (a := c1) (lv' := [(8, .int (nI (c1 + 1))), (3, .int (nI (pq_ac S f x c1))), (9, .int (-4)), (0, .ref (L 0 0)), (1, .int (nI f)), (2, .int (nI (pm_ds S f 3))), (4, .int (nI (S 9 1))), (5, .int (nI x)), (6, .int (nI (pm_mk (S 4 f) x))), (7, .int (nI 0))]) hx hb dL_isDecided_159 hl (k := 9) rfl (by decide) rfl (fun ls hl => ?_)
                    refine lv_goto (tgt := 71) hx hb dL_isDecided_162 (by decide) ?_
                    have q44 : (nI (pq_ac S f x (c1 + 1)) : Int32) = nI (pq_ac S f x c1) := (congrArg nI (pq_ac_n (pq_df4 (by rw [hc2]; exact pq_wd2 (hI.1.okm f hf) (by omega)) hin)))
                    exact ih19 (c1 + 1) ls H locs (Bs33, pi34, kn35) hP hD hS (by omega) (by omega) (by rw [q44]; exact lv_sub hl [3, 4, 5, 1, 6, 7, 8, 9, 0] rfl) hC32
                  · have hIT : pq_I T := by have h8 := pq_mark hI (nI x) (nI f) (nI c1); rw [E] at h8; exact h8
                    have hT0 : T 0 f = 0 := (hT0a f).trans h0
                    have hT9 : T 9 0 = S 9 0 := congrFun hT9a 0
                    have := pm_mk3 (hI.1.okm f hf) (show x < 3 by omega)
                    refine va_calli (va_runV (As := [.int (nI x), .int (nI f), .int (nI c1)]) (rest := []) ⟨hx, hb, hml, hown, hts⟩ (k_X3_mark l D y L S u.1 u.2.1 u.2.2 Gs sv U (fun i => u.1 (u.2.1 i)) Gs (nI x) (nI f) (nI c1) (pq_CI hh71_0) hI.1) (cwV 3 hts gL_isDecided_X3_mark rfl rfl rfl hd_X3_mark ⟨Nat.le_of_ble_eq_true rfl, Nat.le_of_ble_eq_true rfl⟩) ⟨pm_wr_blind, va_recv hK hP (ci := 3) (q0 := 0) rfl rfl, pm_wr_pre hP hK hD⟩ rfl rfl hl.1 rfl (lv_room (Nat.le_of_ble_eq_true rfl)) dL_isDecided_83 ⟨Nat.le_of_ble_eq_true rfl, Nat.le_of_ble_eq_true rfl⟩) hS (fun q _ h9 => pm_ad_all hD q h9) (pm_ad_all hD) (fun r45 u50 t46 H1 locs ht47 _ h51 hB48 _ hk49 hS => ?_)
                    have hB48 : va_P D vwCl (pm_cl y L T (pm_ub u.1 (u.2.1 u.2.2) S) (pm_rp u.2.1 u.2.2 (nI (pm_mk (S 4 f) x))) (pm_rk u.2.2 (nI (pm_mk (S 4 f) x))) Gs sv U) H1 := by have h8 : va_P D vwCl (pm_cl y L (pm_aMark S (nI x) (nI f) (nI c1)).2 (pm_ub u.1 (u.2.1 u.2.2) S) (pm_rp u.2.1 u.2.2 (pm_aMark S (nI x) (nI f) (nI c1)).1) (pm_rk u.2.2 (pm_aMark S (nI x) (nI f) (nI c1)).1) Gs sv U) t46.heap := hB48; rw [E] at h8; rw [← ht47]; exact h8
                    obtain rfl : r45 = nI (pm_mk (S 4 f) x) := h51.trans (by rw [E])
                    obtain ⟨hP, hD⟩ := pm_all (D := D) (cl := vwCl) (H1 := H1) hD (w' := pm_cl y L T (pm_ub u.1 (u.2.1 u.2.2) S) (pm_rp u.2.1 u.2.2 (nI (pm_mk (S 4 f) x))) (pm_rk u.2.2 (nI (pm_mk (S 4 f) x))) Gs sv U) hB48 (pm_cl_fst ..)
                    have hC52 := pq_C_r hh71_0 (nI (pm_mk (S 4 f) x))
                    have hU := pq_undo_r (Bs := u.1) hh71_0 S (v := (pm_mk (S 4 f) x)) (by omega)
                    generalize pm_ub u.1 (u.2.1 u.2.2) S = Bs53 at hP hD hU
                    generalize pm_rp u.2.1 u.2.2 (nI (pm_mk (S 4 f) x)) = pi54 at hP hD hC52 hU
                    generalize pm_rk u.2.2 (nI (pm_mk (S 4 f) x)) = kn55 at hP hD hC52 hU
                    generalize H1 = H at hP hS ⊢
                    have hP : va_P D vwCl (pm_cl y L T Bs53 pi54 kn55 Gs sv U) H := hP
                    have hD : va_D (pm_ad (pm_cl y L S Bs pi kn Gs sv U)) (pm_cl y L T Bs53 pi54 kn55 Gs sv U) := hD
                    refine lv_istore (lv' := [(9, .int (nI (pm_mk (S 4 f) x))), (0, .ref (L 0 0)), (1, .int (nI f)), (2, .int (nI (pm_ds S f 3))), (3, .int (nI (pq_ac S f x c1))), (4, .int (nI (S 9 1))), (5, .int (nI x)), (6, .int (nI (pm_mk (S 4 f) x))), (7, .int (nI 0)), (8, .int (nI c1))]) hx hb dL_isDecided_86 hl (by decide) rfl (fun ls hl => ?_)
                    refine lv_iload_n hx hb dL_isDecided_88 rfl (lv_at hl 4 rfl) ?_
                    refine lv_iload hx hb dL_isDecided_89 (lv_at hl 0 rfl) ?_
                    refine kx_if_lt (tgt := 119) hx hb (by omega) dL_isDecided_91 (by decide) ?_
                    refine lv_aload_n hx hb dL_isDecided_94 rfl (lv_at hl 1 rfl) ?_
                    refine lv_iload_n hx hb dL_isDecided_95 rfl (lv_at hl 2 rfl) ?_
                    refine vp_callSi (W.runV (As := [.int (nI f)]) (rest := [.int (nI (pq_ac S f x c1))]) ⟨hx, hb, hml, hown, hts⟩ (k_X3_why l D y L T Bs53 pi54 kn55 Gs sv U Bs Gs (nI f) hIT.1) (cwV 1 hts gL_isDecided_X3_why rfl rfl rfl hd_X3_why ⟨Nat.le_of_ble_eq_true rfl, Nat.le_of_ble_eq_true rfl⟩) ⟨pm_ro_blind, va_recv hK hP (ci := 3) (q0 := 0) rfl rfl, pm_ro_pre hP hK⟩ rfl rfl hl.1 rfl (lv_room (Nat.le_of_ble_eq_true rfl)) dL_isDecided_96 ⟨Nat.le_of_ble_eq_true rfl, Nat.le_of_ble_eq_true rfl⟩) (fun r56 h57 => ?_)
                    obtain rfl : r56 = nI (pq_wy T f) := h57.trans (pq_whn (by omega))
                    have := pq_wy4 T f
                    refine kx_if_ne (tgt := 106) hx hb (by omega) dL_isDecided_99 (by decide) (fun c58 => ?_) (fun c58 => ?_)
                    · skip
                      refine lv_iconst (v := nI 0) hx hb dL_isDecided_106 (by decide) ?_
                      refine lv_iload hx hb dL_isDecided_107 (lv_at hl 8 rfl) ?_
                      refine lv_icmp_eq (tgt := 119) hx hb dL_isDecided_109 (by decide) (fun _ => ?_) (fun c59 => (c59 (by decide)).elim)
                      refine lv_iconst (v := nI 0) hx hb dL_isDecided_119 (by decide) ?_
                      refine lv_ior hx hb dL_isDecided_120 ?_
                      refine lv_topi (fun x60 e61 => ?_)
                      obtain rfl : x60 = nI (pq_ac S f x c1) := e61.trans (pq_or0 (by omega))
                      refine lv_istore_n (lv' := [(3, .int (nI (pq_ac S f x c1))), (9, .int (nI (pm_mk (S 4 f) x))), (0, .ref (L 0 0)), (1, .int (nI f)), (2, .int (nI (pm_ds S f 3))), (4, .int (nI (S 9 1))), (5, .int (nI x)), (6, .int (nI (pm_mk (S 4 f) x))), (7, .int (nI 0)), (8, .int (nI c1))]) hx hb dL_isDecided_121 rfl hl (by decide) rfl (fun ls hl => ?_)
                      refine lv_iload_n hx hb dL_isDecided_122 rfl (lv_at hl 0 rfl) ?_
                      refine lv_iload hx hb dL_isDecided_123 (lv_at hl 1 rfl) ?_
                      refine lv_bipush (v := (-4)) hx hb dL_isDecided_125 (by decide) ?_
                      refine lv_icmp_ne (tgt := 142) hx hb dL_isDecided_127 (by decide) (fun c62 => ?_) (fun c62 => by exfalso; exact pq_m4 (by omega) c62)
                      refine lv_iconst (v := nI 0) hx hb dL_isDecided_142 (by decide) ?_
                      refine lv_ior hx hb dL_isDecided_143 ?_
                      refine lv_topi (fun x63 e64 => ?_)
                      obtain rfl : x63 = nI (pq_ac S f x c1) := e64.trans (pq_or0 (by omega))
                      refine lv_istore_n (lv' := [(3, .int (nI (pq_ac S f x c1))), (9, .int (nI (pm_mk (S 4 f) x))), (0, .ref (L 0 0)), (1, .int (nI f)), (2, .int (nI (pm_ds S f 3))), (4, .int (nI (S 9 1))), (5, .int (nI x)), (6, .int (nI (pm_mk (S 4 f) x))), (7, .int (nI 0)), (8, .int (nI c1))]) hx hb dL_isDecided_144 rfl hl (by decide) rfl (fun ls hl => ?_)
                      refine lv_iload hx hb dL_isDecided_145 (lv_at hl 1 rfl) ?_
                      refine kx_if_lt (tgt := 159) hx hb (by omega) dL_isDecided_147 (by decide) ?_
                      refine lv_aload_n hx hb dL_isDecided_150 rfl (lv_at hl 2 rfl) ?_
                      refine va_calli (va_runV (As := []) (rest := []) ⟨hx, hb, hml, hown, hts⟩ (k_X3_undo l D y L T Bs53 pi54 kn55 Gs sv U (fun i => Bs53 (pi54 i)) Gs (pq_CI hC52) hU.1) (cwV 0 hts gL_isDecided_X3_undo rfl rfl rfl hd_X3_undo ⟨Nat.le_of_ble_eq_true rfl, Nat.le_of_ble_eq_true rfl⟩) ⟨pm_wrn_blind, va_recv hK hP (ci := 3) (q0 := 0) rfl rfl, pm_wrn_pre hP hK hD hN⟩ rfl rfl hl.1 rfl (lv_room (Nat.le_of_ble_eq_true rfl)) dL_isDecided_151 ⟨Nat.le_of_ble_eq_true rfl, Nat.le_of_ble_eq_true rfl⟩) hS (fun q _ h9 => pm_ad_all hD q h9) (pm_ad_all hD) (fun r65 u70 t66 H1 locs ht67 _ h71 hB68 _ hk69 hS => ?_)
                      have hB68 : va_P D vwCl (pm_cl y L S Bs53 pi54 (kn55 - 1) Gs sv U) H1 := by have h8 : va_P D vwCl (pm_cl y L (Bs53 (pi54 (kn55 - 1))) Bs53 pi54 (kn55 - 1) Gs sv U) t66.heap := hB68; rw [hU.2] at h8; rw [← ht67]; exact h8
                      obtain rfl : r65 = nI (kn55 - 1) := h71
                      obtain ⟨hP, hD⟩ := pm_all (D := D) (cl := vwCl) (H1 := H1) hD (w' := pm_cl y L S Bs53 pi54 (kn55 - 1) Gs sv U) hB68 (pm_cl_fst ..)
                      generalize H1 = H at hP hS ⊢
                      have hC72 := pq_C_u hC52
                      have := hC52.2.2
                      have hP : va_P D vwCl (pm_cl y L S Bs53 pi54 (kn55 - 1) Gs sv U) H := hP
                      have hD : va_D (pm_ad (pm_cl y L S Bs pi kn Gs sv U)) (pm_cl y L S Bs53 pi54 (kn55 - 1) Gs sv U) := hD
                      refine kx_if_ge (tgt := 159) hx hb (by omega) dL_isDecided_154 (by decide) ?_
                      refine kx_iinc (a := c1) (lv' := [(8, .int (nI (c1 + 1))), (3, .int (nI (pq_ac S f x c1))), (9, .int (nI (pm_mk (S 4 f) x))), (0, .ref (L 0 0)), (1, .int (nI f)), (2, .int (nI (pm_ds S f 3))), (4, .int (nI (S 9 1))), (5, .int (nI x)), (6, .int (nI (pm_mk (S 4 f) x))), (7, .int (nI 0))]) hx hb dL_isDecided_159 hl (k := 9) rfl (by decide) rfl (fun ls hl => ?_)
                      refine lv_goto (tgt := 71) hx hb dL_isDecided_162 (by decide) ?_
                      have q73 : (nI (pq_ac S f x (c1 + 1)) : Int32) = nI (pq_ac S f x c1) := (congrArg nI (pq_ac_n (pq_df4 (by rw [← hT9, ← hT4]; exact (pq_wyf hT0 (by omega))) hin)))
                      exact ih19 (c1 + 1) ls H locs (Bs53, pi54, (kn55 - 1)) hP hD hS (by omega) (by omega) (by rw [q73]; exact lv_sub hl [3, 4, 5, 1, 6, 7, 8, 9, 0] rfl) hC72
                    · skip
                      refine lv_iconst (v := nI 1) hx hb dL_isDecided_102 (by decide) ?_
                      refine lv_goto (tgt := 107) hx hb dL_isDecided_103 (by decide) ?_
                      refine lv_iload hx hb dL_isDecided_107 (lv_at hl 8 rfl) ?_
                      refine lv_icmp_eq (tgt := 119) hx hb dL_isDecided_109 (by decide) (fun c74 => absurd c74 (by decide)) (fun _ => ?_)
                      refine lv_iconst (v := nI 1) hx hb dL_isDecided_112 (by decide) ?_
                      refine lv_iload hx hb dL_isDecided_113 (lv_at hl 6 rfl) ?_
                      refine lv_ishl hx hb dL_isDecided_115 ?_
                      refine lv_topi (fun x75 e76 => ?_)
                      obtain rfl : x75 = nI (2 ^ x) := e76.trans (pm_bit x (by omega))
                      refine lv_goto (tgt := 120) hx hb dL_isDecided_116 (by decide) ?_
                      refine lv_ior hx hb dL_isDecided_120 ?_
                      refine lv_topi (fun x77 e78 => ?_)
                      obtain rfl : x77 = nI (pm_ds S f x + 2 ^ x) := e78.trans (pq_or1 (by omega))
                      refine lv_istore_n (lv' := [(3, .int (nI (pm_ds S f x + 2 ^ x))), (9, .int (nI (pm_mk (S 4 f) x))), (0, .ref (L 0 0)), (1, .int (nI f)), (2, .int (nI (pm_ds S f 3))), (4, .int (nI (S 9 1))), (5, .int (nI x)), (6, .int (nI (pm_mk (S 4 f) x))), (7, .int (nI 0)), (8, .int (nI c1))]) hx hb dL_isDecided_121 rfl hl (by decide) rfl (fun ls hl => ?_)
                      refine lv_iload_n hx hb dL_isDecided_122 rfl (lv_at hl 0 rfl) ?_
                      refine lv_iload hx hb dL_isDecided_123 (lv_at hl 1 rfl) ?_
                      refine lv_bipush (v := (-4)) hx hb dL_isDecided_125 (by decide) ?_
                      refine lv_icmp_ne (tgt := 142) hx hb dL_isDecided_127 (by decide) (fun c79 => ?_) (fun c79 => by exfalso; exact pq_m4 (by omega) c79)
                      refine lv_iconst (v := nI 0) hx hb dL_isDecided_142 (by decide) ?_
                      refine lv_ior hx hb dL_isDecided_143 ?_
                      refine lv_topi (fun x80 e81 => ?_)
                      obtain rfl : x80 = nI (pm_ds S f x + 2 ^ x) := e81.trans (pq_or2 (by omega))
                      refine lv_istore_n (lv' := [(3, .int (nI (pm_ds S f x + 2 ^ x))), (9, .int (nI (pm_mk (S 4 f) x))), (0, .ref (L 0 0)), (1, .int (nI f)), (2, .int (nI (pm_ds S f 3))), (4, .int (nI (S 9 1))), (5, .int (nI x)), (6, .int (nI (pm_mk (S 4 f) x))), (7, .int (nI 0)), (8, .int (nI c1))]) hx hb dL_isDecided_144 rfl hl (by decide) rfl (fun ls hl => ?_)
                      refine lv_iload hx hb dL_isDecided_145 (lv_at hl 1 rfl) ?_
                      refine kx_if_lt (tgt := 159) hx hb (by omega) dL_isDecided_147 (by decide) ?_
                      refine lv_aload_n hx hb dL_isDecided_150 rfl (lv_at hl 2 rfl) ?_
                      refine va_calli (va_runV (As := []) (rest := []) ⟨hx, hb, hml, hown, hts⟩ (k_X3_undo l D y L T Bs53 pi54 kn55 Gs sv U (fun i => Bs53 (pi54 i)) Gs (pq_CI hC52) hU.1) (cwV 0 hts gL_isDecided_X3_undo rfl rfl rfl hd_X3_undo ⟨Nat.le_of_ble_eq_true rfl, Nat.le_of_ble_eq_true rfl⟩) ⟨pm_wrn_blind, va_recv hK hP (ci := 3) (q0 := 0) rfl rfl, pm_wrn_pre hP hK hD hN⟩ rfl rfl hl.1 rfl (lv_room (Nat.le_of_ble_eq_true rfl)) dL_isDecided_151 ⟨Nat.le_of_ble_eq_true rfl, Nat.le_of_ble_eq_true rfl⟩) hS (fun q _ h9 => pm_ad_all hD q h9) (pm_ad_all hD) (fun r82 u87 t83 H1 locs ht84 _ h88 hB85 _ hk86 hS => ?_)
                      have hB85 : va_P D vwCl (pm_cl y L S Bs53 pi54 (kn55 - 1) Gs sv U) H1 := by have h8 : va_P D vwCl (pm_cl y L (Bs53 (pi54 (kn55 - 1))) Bs53 pi54 (kn55 - 1) Gs sv U) t83.heap := hB85; rw [hU.2] at h8; rw [← ht84]; exact h8
                      obtain rfl : r82 = nI (kn55 - 1) := h88
                      obtain ⟨hP, hD⟩ := pm_all (D := D) (cl := vwCl) (H1 := H1) hD (w' := pm_cl y L S Bs53 pi54 (kn55 - 1) Gs sv U) hB85 (pm_cl_fst ..)
                      generalize H1 = H at hP hS ⊢
                      have hC89 := pq_C_u hC52
                      have := hC52.2.2
                      have hP : va_P D vwCl (pm_cl y L S Bs53 pi54 (kn55 - 1) Gs sv U) H := hP
                      have hD : va_D (pm_ad (pm_cl y L S Bs pi kn Gs sv U)) (pm_cl y L S Bs53 pi54 (kn55 - 1) Gs sv U) := hD
                      refine kx_if_ge (tgt := 159) hx hb (by omega) dL_isDecided_154 (by decide) ?_
                      refine kx_iinc (a := c1) (lv' := [(8, .int (nI (c1 + 1))), (3, .int (nI (pm_ds S f x + 2 ^ x))), (9, .int (nI (pm_mk (S 4 f) x))), (0, .ref (L 0 0)), (1, .int (nI f)), (2, .int (nI (pm_ds S f 3))), (4, .int (nI (S 9 1))), (5, .int (nI x)), (6, .int (nI (pm_mk (S 4 f) x))), (7, .int (nI 0))]) hx hb dL_isDecided_159 hl (k := 9) rfl (by decide) rfl (fun ls hl => ?_)
                      refine lv_goto (tgt := 71) hx hb dL_isDecided_162 (by decide) ?_
                      have q90 : (nI (pq_ac S f x (c1 + 1)) : Int32) = nI (pm_ds S f x + 2 ^ x) := (congrArg nI (pq_ac_p (pq_df1 (by rw [← hT9, ← hT4]; exact (pq_wyt hT0 (by omega))) hin)))
                      exact ih19 (c1 + 1) ls H locs (Bs53, pi54, (kn55 - 1)) hP hD hS (by omega) (by omega) (by rw [q90]; exact lv_sub hl [3, 4, 5, 1, 6, 7, 8, 9, 0] rfl) hC89
            exact LOOP71 (3 + 1) 0 ls H locs (u.1, u.2.1, u.2.2) hP hD hS (by omega) (by omega) (by rw [pq_ac0 S f x] at hl; exact lv_sub hl [3, 4, 5, 6, 7, 8, 2, 1, 0] rfl) hh38_0
          · skip
            refine lv_iconst (v := nI 1) hx hb dL_isDecided_61 (by decide) ?_
            refine lv_goto (tgt := 66) hx hb dL_isDecided_62 (by decide) ?_
            have hin : pm_wd (S 9 0) (S 4 f) = true := pq_wyt h0 (by omega)
            refine lv_istore (lv' := [(7, .int (nI 1)), (6, .int (nI (pm_mk (S 4 f) x))), (0, .ref (L 0 0)), (1, .int (nI f)), (2, .int (nI (pm_ds S f 3))), (3, .int (nI (pm_ds S f x))), (4, .int (nI (S 9 1))), (5, .int (nI x))]) hx hb dL_isDecided_66 hl (by decide) rfl (fun ls hl => ?_)
            refine lv_iconst (v := nI 0) hx hb dL_isDecided_68 (by decide) ?_
            refine lv_istore (lv' := [(8, .int (nI 0)), (7, .int (nI 1)), (6, .int (nI (pm_mk (S 4 f) x))), (0, .ref (L 0 0)), (1, .int (nI f)), (2, .int (nI (pm_ds S f 3))), (3, .int (nI (pm_ds S f x))), (4, .int (nI (S 9 1))), (5, .int (nI x))]) hx hb dL_isDecided_69 hl (by decide) rfl (fun ls hl => ?_)
            have LOOP71 : ∀ (n c1 : Nat) (ls : Array Slot) (H : Heap) (locs : List Loc) (u : (Nat → Nat → Nat → Nat) × (Nat → Nat) × Nat), va_P D vwCl (pm_cl y L S u.1 u.2.1 u.2.2 Gs sv U) H → va_D (pm_ad (pm_cl y L S Bs pi kn Gs sv U)) (pm_cl y L S u.1 u.2.1 u.2.2 Gs sv U) → va_S (pm_ad (pm_cl y L S Bs pi kn Gs sv U)) s.heap H locs → c1 ≤ 3 → 3 - c1 < n → lv_has ls 10 [(0, .ref (L 0 0)), (1, .int (nI f)), (2, .int (nI (pm_ds S f 3))), (3, .int (nI (pq_ac S f x c1))), (4, .int (nI (S 9 1))), (5, .int (nI x)), (6, .int (nI (pm_mk (S 4 f) x))), (7, .int (nI 1)), (8, .int (nI c1))] → (pq_C u.2.1 u.2.2) → W p l e (headSpec wsL_isDecided ({ frames := 5, cells := 0, slots := 0, locals := 115 } : Room)).room s m ([.ref (L 0 0), .int (nI f)] : List Value).toArray below meth c H locs 0 0 (MQ below (pm_Qi D (fun (r : Int32) (u : pq_T) => r = nI 1 ∧ pq_I u.1 ∧ pq_C u.2.2.1 u.2.2.2) (fun (u : pq_T) => pm_cl y L u.1 u.2.1 u.2.2.1 u.2.2.2 Gs sv U) (pm_cl y L S Bs pi kn Gs sv U)) ([.ref (L 0 0), .int (nI f)] : List Value).toArray s 0 0 (pm_ad (pm_cl y L S Bs pi kn Gs sv U))) (F0 m 71 ls []) := by
              intro n
              induction n with
              | zero => intro c1 _ _ _ _ _ _ _ hi hn; omega
              | succ n ih91 =>
                intro c1 ls H locs u hP hD hS hi_c1 hn_c1 hl hh71_0
                refine lv_iload hx hb dL_isDecided_71 (lv_at hl 8 rfl) ?_
                refine lv_iconst (v := nI 3) hx hb dL_isDecided_73 (by decide) ?_
                refine kx_icmp_ge (tgt := 165) hx hb (by omega) (by decide) dL_isDecided_74 (by decide) (fun c92 => ?_) (fun c92 => ?_)
                · skip
                  obtain rfl : c1 = 3 := by omega
                  refine lv_aload_n hx hb dL_isDecided_165 rfl (lv_at hl 0 rfl) ?_
                  refine lv_iload hx hb dL_isDecided_166 (lv_at hl 5 rfl) ?_
                  refine lv_iload_n hx hb dL_isDecided_168 rfl (lv_at hl 1 rfl) ?_
                  refine vp_callSi (W.runS (As := [.ref (L 0 0), .int (nI x), .int (nI f)]) (rest := []) ⟨hx, hb, hml, hown, hts⟩ (k_L_mark l D y L S u.1 u.2.1 u.2.2 Gs sv U x f hI (by omega) (by omega)) (va_cwS 3 hts gL_isDecided_L_mark rfl rfl rfl hd_L_mark ⟨Nat.le_of_ble_eq_true rfl, Nat.le_of_ble_eq_true rfl⟩) ⟨pm_ro_blind, pm_ro_pre hP hK⟩ rfl rfl hl.1 rfl (lv_room (Nat.le_of_ble_eq_true rfl)) dL_isDecided_169 ⟨Nat.le_of_ble_eq_true rfl, Nat.le_of_ble_eq_true rfl⟩) (fun r93 h94 => ?_)
                  obtain rfl : r93 = nI (pm_mk (S 4 f) x) := h94
                  have := pm_mk3 (hI.1.okm f (by omega)) (show x < 3 by omega)
                  refine lv_iload hx hb dL_isDecided_172 (lv_at hl 6 rfl) ?_
                  refine kx_icmp_eq (tgt := 179) hx hb (by omega) (by omega) dL_isDecided_174 (by decide) (fun c95 => ?_) (fun c95 => by exfalso; omega)
                  refine kx_iinc (a := x) (lv' := [(5, .int (nI (x + 1))), (0, .ref (L 0 0)), (1, .int (nI f)), (2, .int (nI (pm_ds S f 3))), (3, .int (nI (pq_ac S f x 3))), (4, .int (nI (S 9 1))), (6, .int (nI (pm_mk (S 4 f) x))), (7, .int (nI 1)), (8, .int (nI 3))]) hx hb dL_isDecided_179 hl (k := 5) rfl (by decide) rfl (fun ls hl => ?_)
                  refine lv_goto (tgt := 38) hx hb dL_isDecided_182 (by decide) ?_
                  have q96 : (nI (pm_ds S f (x + 1)) : Int32) = nI (pq_ac S f x 3) := (congrArg nI (pq_ac3 h0))
                  exact ih8 (x + 1) ls H locs (u.1, u.2.1, u.2.2) hP hD hS (by omega) (by omega) (by rw [q96]; exact lv_sub hl [1, 2, 3, 4, 5, 0] rfl) hh71_0
                · skip
                  refine lv_aload_n hx hb dL_isDecided_77 rfl (lv_at hl 0 rfl) ?_
                  refine lv_iload hx hb dL_isDecided_78 (lv_at hl 5 rfl) ?_
                  refine lv_iload_n hx hb dL_isDecided_80 rfl (lv_at hl 1 rfl) ?_
                  refine lv_iload hx hb dL_isDecided_81 (lv_at hl 8 rfl) ?_
                  rcases pq_mrk (S := S) (x := x) (f := f) (c := c1) (by omega) hf (by omega) h0 with ⟨hc2, hnm, hnv, E⟩ | ⟨hno, T, E, hT4, hT0a, hT9a⟩
                  · skip
                    refine va_calli (va_runV (As := [.int (nI x), .int (nI f), .int (nI c1)]) (rest := []) ⟨hx, hb, hml, hown, hts⟩ (k_X3_mark l D y L S u.1 u.2.1 u.2.2 Gs sv U (fun i => u.1 (u.2.1 i)) Gs (nI x) (nI f) (nI c1) (pq_CI hh71_0) hI.1) (cwV 3 hts gL_isDecided_X3_mark rfl rfl rfl hd_X3_mark ⟨Nat.le_of_ble_eq_true rfl, Nat.le_of_ble_eq_true rfl⟩) ⟨pm_wr_blind, va_recv hK hP (ci := 3) (q0 := 0) rfl rfl, pm_wr_pre hP hK hD⟩ rfl rfl hl.1 rfl (lv_room (Nat.le_of_ble_eq_true rfl)) dL_isDecided_83 ⟨Nat.le_of_ble_eq_true rfl, Nat.le_of_ble_eq_true rfl⟩) hS (fun q _ h9 => pm_ad_all hD q h9) (pm_ad_all hD) (fun r97 u102 t98 H1 locs ht99 _ h103 hB100 _ hk101 hS => ?_)
                    have hB100 : va_P D vwCl (pm_cl y L S (pm_ub u.1 (u.2.1 u.2.2) S) (pm_rp u.2.1 u.2.2 (-4)) (pm_rk u.2.2 (-4)) Gs sv U) H1 := by have h8 : va_P D vwCl (pm_cl y L (pm_aMark S (nI x) (nI f) (nI c1)).2 (pm_ub u.1 (u.2.1 u.2.2) S) (pm_rp u.2.1 u.2.2 (pm_aMark S (nI x) (nI f) (nI c1)).1) (pm_rk u.2.2 (pm_aMark S (nI x) (nI f) (nI c1)).1) Gs sv U) t98.heap := hB100; rw [E] at h8; rw [← ht99]; exact h8
                    obtain rfl : r97 = -4 := h103.trans (by rw [E])
                    obtain ⟨hP, hD⟩ := pm_all (D := D) (cl := vwCl) (H1 := H1) hD (w' := pm_cl y L S (pm_ub u.1 (u.2.1 u.2.2) S) (pm_rp u.2.1 u.2.2 (-4)) (pm_rk u.2.2 (-4)) Gs sv U) hB100 (pm_cl_fst ..)
                    have hC104 := pq_C_r hh71_0 (-4)
                    generalize pm_ub u.1 (u.2.1 u.2.2) S = Bs105 at hP hD
                    generalize pm_rp u.2.1 u.2.2 (-4) = pi106 at hP hD hC104
                    generalize pm_rk u.2.2 (-4) = kn107 at hP hD hC104
                    generalize H1 = H at hP hS ⊢
                    have hP : va_P D vwCl (pm_cl y L S Bs105 pi106 kn107 Gs sv U) H := hP
                    have hD : va_D (pm_ad (pm_cl y L S Bs pi kn Gs sv U)) (pm_cl y L S Bs105 pi106 kn107 Gs sv U) := hD
                    refine lv_istore (lv' := [(9, .int (-4)), (0, .ref (L 0 0)), (1, .int (nI f)), (2, .int (nI (pm_ds S f 3))), (3, .int (nI (pq_ac S f x c1))), (4, .int (nI (S 9 1))), (5, .int (nI x)), (6, .int (nI (pm_mk (S 4 f) x))), (7, .int (nI 1)), (8, .int (nI c1))]) hx hb dL_isDecided_86 hl (by decide) rfl (fun ls hl => ?_)
                    refine lv_iload_n hx hb dL_isDecided_88 rfl (lv_at hl 4 rfl) ?_
                    refine lv_iload hx hb dL_isDecided_89 (lv_at hl 0 rfl) ?_
                    refine lv_if_lt (tgt := 119) hx hb dL_isDecided_91 (by decide) (fun _ => ?_) (fun c108 => (c108 (by decide)).elim)
                    refine lv_iconst (v := nI 0) hx hb dL_isDecided_119 (by decide) ?_
                    refine lv_ior hx hb dL_isDecided_120 ?_
                    refine lv_topi (fun x109 e110 => ?_)
                    obtain rfl : x109 = nI (pq_ac S f x c1) := e110.trans (pq_or0 (by omega))
                    refine lv_istore_n (lv' := [(3, .int (nI (pq_ac S f x c1))), (9, .int (-4)), (0, .ref (L 0 0)), (1, .int (nI f)), (2, .int (nI (pm_ds S f 3))), (4, .int (nI (S 9 1))), (5, .int (nI x)), (6, .int (nI (pm_mk (S 4 f) x))), (7, .int (nI 1)), (8, .int (nI c1))]) hx hb dL_isDecided_121 rfl hl (by decide) rfl (fun ls hl => ?_)
                    refine lv_iload_n hx hb dL_isDecided_122 rfl (lv_at hl 0 rfl) ?_
                    refine lv_iload hx hb dL_isDecided_123 (lv_at hl 1 rfl) ?_
                    refine lv_bipush (v := (-4)) hx hb dL_isDecided_125 (by decide) ?_
                    refine lv_icmp_ne (tgt := 142) hx hb dL_isDecided_127 (by decide) (fun c111 => (c111 (by decide)).elim) (fun _ => ?_)
                    refine lv_iload hx hb dL_isDecided_130 (lv_at hl 8 rfl) ?_
                    refine lv_if_eq (tgt := 142) hx hb dL_isDecided_132 (by decide) (fun c112 => absurd c112 (by decide)) (fun _ => ?_)
                    refine lv_iconst (v := nI 1) hx hb dL_isDecided_135 (by decide) ?_
                    refine lv_iload hx hb dL_isDecided_136 (lv_at hl 6 rfl) ?_
                    refine lv_ishl hx hb dL_isDecided_138 ?_
                    refine lv_topi (fun x113 e114 => ?_)
                    obtain rfl : x113 = nI (2 ^ x) := e114.trans (pm_bit x (by omega))
                    refine lv_goto (tgt := 143) hx hb dL_isDecided_139 (by decide) ?_
                    refine lv_ior hx hb dL_isDecided_143 ?_
                    refine lv_topi (fun x115 e116 => ?_)
                    obtain rfl : x115 = nI (pm_ds S f x + 2 ^ x) := e116.trans (pq_or1 (by omega))
                    refine lv_istore_n (lv' := [(3, .int (nI (pm_ds S f x + 2 ^ x))), (9, .int (-4)), (0, .ref (L 0 0)), (1, .int (nI f)), (2, .int (nI (pm_ds S f 3))), (4, .int (nI (S 9 1))), (5, .int (nI x)), (6, .int (nI (pm_mk (S 4 f) x))), (7, .int (nI 1)), (8, .int (nI c1))]) hx hb dL_isDecided_144 rfl hl (by decide) rfl (fun ls hl => ?_)
                    refine lv_iload hx hb dL_isDecided_145 (lv_at hl 1 rfl) ?_
                    refine lv_if_lt (tgt := 159) hx hb dL_isDecided_147 (by decide) (fun _ => ?_) (fun c117 => (c117 (by decide)).elim)
                    refine kx_iinc (a := c1) (lv' := [(8, .int (nI (c1 + 1))), (3, .int (nI (pm_ds S f x + 2 ^ x))), (9, .int (-4)), (0, .ref (L 0 0)), (1, .int (nI f)), (2, .int (nI (pm_ds S f 3))), (4, .int (nI (S 9 1))), (5, .int (nI x)), (6, .int (nI (pm_mk (S 4 f) x))), (7, .int (nI 1))]) hx hb dL_isDecided_159 hl (k := 9) rfl (by decide) rfl (fun ls hl => ?_)
                    refine lv_goto (tgt := 71) hx hb dL_isDecided_162 (by decide) ?_
                    have q118 : (nI (pq_ac S f x (c1 + 1)) : Int32) = nI (pm_ds S f x + 2 ^ x) := (congrArg nI (pq_ac_p (pq_df2 (by rw [hc2]; exact pq_wd2 (hI.1.okm f hf) (by omega)) hin)))
                    exact ih91 (c1 + 1) ls H locs (Bs105, pi106, kn107) hP hD hS (by omega) (by omega) (by rw [q118]; exact lv_sub hl [3, 4, 5, 1, 6, 7, 8, 9, 0] rfl) hC104
                  · have hIT : pq_I T := by have h8 := pq_mark hI (nI x) (nI f) (nI c1); rw [E] at h8; exact h8
                    have hT0 : T 0 f = 0 := (hT0a f).trans h0
                    have hT9 : T 9 0 = S 9 0 := congrFun hT9a 0
                    have := pm_mk3 (hI.1.okm f hf) (show x < 3 by omega)
                    refine va_calli (va_runV (As := [.int (nI x), .int (nI f), .int (nI c1)]) (rest := []) ⟨hx, hb, hml, hown, hts⟩ (k_X3_mark l D y L S u.1 u.2.1 u.2.2 Gs sv U (fun i => u.1 (u.2.1 i)) Gs (nI x) (nI f) (nI c1) (pq_CI hh71_0) hI.1) (cwV 3 hts gL_isDecided_X3_mark rfl rfl rfl hd_X3_mark ⟨Nat.le_of_ble_eq_true rfl, Nat.le_of_ble_eq_true rfl⟩) ⟨pm_wr_blind, va_recv hK hP (ci := 3) (q0 := 0) rfl rfl, pm_wr_pre hP hK hD⟩ rfl rfl hl.1 rfl (lv_room (Nat.le_of_ble_eq_true rfl)) dL_isDecided_83 ⟨Nat.le_of_ble_eq_true rfl, Nat.le_of_ble_eq_true rfl⟩) hS (fun q _ h9 => pm_ad_all hD q h9) (pm_ad_all hD) (fun r119 u124 t120 H1 locs ht121 _ h125 hB122 _ hk123 hS => ?_)
                    have hB122 : va_P D vwCl (pm_cl y L T (pm_ub u.1 (u.2.1 u.2.2) S) (pm_rp u.2.1 u.2.2 (nI (pm_mk (S 4 f) x))) (pm_rk u.2.2 (nI (pm_mk (S 4 f) x))) Gs sv U) H1 := by have h8 : va_P D vwCl (pm_cl y L (pm_aMark S (nI x) (nI f) (nI c1)).2 (pm_ub u.1 (u.2.1 u.2.2) S) (pm_rp u.2.1 u.2.2 (pm_aMark S (nI x) (nI f) (nI c1)).1) (pm_rk u.2.2 (pm_aMark S (nI x) (nI f) (nI c1)).1) Gs sv U) t120.heap := hB122; rw [E] at h8; rw [← ht121]; exact h8
                    obtain rfl : r119 = nI (pm_mk (S 4 f) x) := h125.trans (by rw [E])
                    obtain ⟨hP, hD⟩ := pm_all (D := D) (cl := vwCl) (H1 := H1) hD (w' := pm_cl y L T (pm_ub u.1 (u.2.1 u.2.2) S) (pm_rp u.2.1 u.2.2 (nI (pm_mk (S 4 f) x))) (pm_rk u.2.2 (nI (pm_mk (S 4 f) x))) Gs sv U) hB122 (pm_cl_fst ..)
                    have hC126 := pq_C_r hh71_0 (nI (pm_mk (S 4 f) x))
                    have hU := pq_undo_r (Bs := u.1) hh71_0 S (v := (pm_mk (S 4 f) x)) (by omega)
                    generalize pm_ub u.1 (u.2.1 u.2.2) S = Bs127 at hP hD hU
                    generalize pm_rp u.2.1 u.2.2 (nI (pm_mk (S 4 f) x)) = pi128 at hP hD hC126 hU
                    generalize pm_rk u.2.2 (nI (pm_mk (S 4 f) x)) = kn129 at hP hD hC126 hU
                    generalize H1 = H at hP hS ⊢
                    have hP : va_P D vwCl (pm_cl y L T Bs127 pi128 kn129 Gs sv U) H := hP
                    have hD : va_D (pm_ad (pm_cl y L S Bs pi kn Gs sv U)) (pm_cl y L T Bs127 pi128 kn129 Gs sv U) := hD
                    refine lv_istore (lv' := [(9, .int (nI (pm_mk (S 4 f) x))), (0, .ref (L 0 0)), (1, .int (nI f)), (2, .int (nI (pm_ds S f 3))), (3, .int (nI (pq_ac S f x c1))), (4, .int (nI (S 9 1))), (5, .int (nI x)), (6, .int (nI (pm_mk (S 4 f) x))), (7, .int (nI 1)), (8, .int (nI c1))]) hx hb dL_isDecided_86 hl (by decide) rfl (fun ls hl => ?_)
                    refine lv_iload_n hx hb dL_isDecided_88 rfl (lv_at hl 4 rfl) ?_
                    refine lv_iload hx hb dL_isDecided_89 (lv_at hl 0 rfl) ?_
                    refine kx_if_lt (tgt := 119) hx hb (by omega) dL_isDecided_91 (by decide) ?_
                    refine lv_aload_n hx hb dL_isDecided_94 rfl (lv_at hl 1 rfl) ?_
                    refine lv_iload_n hx hb dL_isDecided_95 rfl (lv_at hl 2 rfl) ?_
                    refine vp_callSi (W.runV (As := [.int (nI f)]) (rest := [.int (nI (pq_ac S f x c1))]) ⟨hx, hb, hml, hown, hts⟩ (k_X3_why l D y L T Bs127 pi128 kn129 Gs sv U Bs Gs (nI f) hIT.1) (cwV 1 hts gL_isDecided_X3_why rfl rfl rfl hd_X3_why ⟨Nat.le_of_ble_eq_true rfl, Nat.le_of_ble_eq_true rfl⟩) ⟨pm_ro_blind, va_recv hK hP (ci := 3) (q0 := 0) rfl rfl, pm_ro_pre hP hK⟩ rfl rfl hl.1 rfl (lv_room (Nat.le_of_ble_eq_true rfl)) dL_isDecided_96 ⟨Nat.le_of_ble_eq_true rfl, Nat.le_of_ble_eq_true rfl⟩) (fun r130 h131 => ?_)
                    obtain rfl : r130 = nI (pq_wy T f) := h131.trans (pq_whn (by omega))
                    have := pq_wy4 T f
                    refine kx_if_ne (tgt := 106) hx hb (by omega) dL_isDecided_99 (by decide) (fun c132 => ?_) (fun c132 => ?_)
                    · skip
                      refine lv_iconst (v := nI 0) hx hb dL_isDecided_106 (by decide) ?_
                      refine lv_iload hx hb dL_isDecided_107 (lv_at hl 8 rfl) ?_
                      refine lv_icmp_eq (tgt := 119) hx hb dL_isDecided_109 (by decide) (fun c133 => absurd c133 (by decide)) (fun _ => ?_)
                      refine lv_iconst (v := nI 1) hx hb dL_isDecided_112 (by decide) ?_
                      refine lv_iload hx hb dL_isDecided_113 (lv_at hl 6 rfl) ?_
                      refine lv_ishl hx hb dL_isDecided_115 ?_
                      refine lv_topi (fun x134 e135 => ?_)
                      obtain rfl : x134 = nI (2 ^ x) := e135.trans (pm_bit x (by omega))
                      refine lv_goto (tgt := 120) hx hb dL_isDecided_116 (by decide) ?_
                      refine lv_ior hx hb dL_isDecided_120 ?_
                      refine lv_topi (fun x136 e137 => ?_)
                      obtain rfl : x136 = nI (pm_ds S f x + 2 ^ x) := e137.trans (pq_or1 (by omega))
                      refine lv_istore_n (lv' := [(3, .int (nI (pm_ds S f x + 2 ^ x))), (9, .int (nI (pm_mk (S 4 f) x))), (0, .ref (L 0 0)), (1, .int (nI f)), (2, .int (nI (pm_ds S f 3))), (4, .int (nI (S 9 1))), (5, .int (nI x)), (6, .int (nI (pm_mk (S 4 f) x))), (7, .int (nI 1)), (8, .int (nI c1))]) hx hb dL_isDecided_121 rfl hl (by decide) rfl (fun ls hl => ?_)
                      refine lv_iload_n hx hb dL_isDecided_122 rfl (lv_at hl 0 rfl) ?_
                      refine lv_iload hx hb dL_isDecided_123 (lv_at hl 1 rfl) ?_
                      refine lv_bipush (v := (-4)) hx hb dL_isDecided_125 (by decide) ?_
                      refine lv_icmp_ne (tgt := 142) hx hb dL_isDecided_127 (by decide) (fun c138 => ?_) (fun c138 => by exfalso; exact pq_m4 (by omega) c138)
                      refine lv_iconst (v := nI 0) hx hb dL_isDecided_142 (by decide) ?_
                      refine lv_ior hx hb dL_isDecided_143 ?_
                      refine lv_topi (fun x139 e140 => ?_)
                      obtain rfl : x139 = nI (pm_ds S f x + 2 ^ x) := e140.trans (pq_or2 (by omega))
                      refine lv_istore_n (lv' := [(3, .int (nI (pm_ds S f x + 2 ^ x))), (9, .int (nI (pm_mk (S 4 f) x))), (0, .ref (L 0 0)), (1, .int (nI f)), (2, .int (nI (pm_ds S f 3))), (4, .int (nI (S 9 1))), (5, .int (nI x)), (6, .int (nI (pm_mk (S 4 f) x))), (7, .int (nI 1)), (8, .int (nI c1))]) hx hb dL_isDecided_144 rfl hl (by decide) rfl (fun ls hl => ?_)
                      refine lv_iload hx hb dL_isDecided_145 (lv_at hl 1 rfl) ?_
                      refine kx_if_lt (tgt := 159) hx hb (by omega) dL_isDecided_147 (by decide) ?_
                      refine lv_aload_n hx hb dL_isDecided_150 rfl (lv_at hl 2 rfl) ?_
                      refine va_calli (va_runV (As := []) (rest := []) ⟨hx, hb, hml, hown, hts⟩ (k_X3_undo l D y L T Bs127 pi128 kn129 Gs sv U (fun i => Bs127 (pi128 i)) Gs (pq_CI hC126) hU.1) (cwV 0 hts gL_isDecided_X3_undo rfl rfl rfl hd_X3_undo ⟨Nat.le_of_ble_eq_true rfl, Nat.le_of_ble_eq_true rfl⟩) ⟨pm_wrn_blind, va_recv hK hP (ci := 3) (q0 := 0) rfl rfl, pm_wrn_pre hP hK hD hN⟩ rfl rfl hl.1 rfl (lv_room (Nat.le_of_ble_eq_true rfl)) dL_isDecided_151 ⟨Nat.le_of_ble_eq_true rfl, Nat.le_of_ble_eq_true rfl⟩) hS (fun q _ h9 => pm_ad_all hD q h9) (pm_ad_all hD) (fun r141 u146 t142 H1 locs ht143 _ h147 hB144 _ hk145 hS => ?_)
                      have hB144 : va_P D vwCl (pm_cl y L S Bs127 pi128 (kn129 - 1) Gs sv U) H1 := by have h8 : va_P D vwCl (pm_cl y L (Bs127 (pi128 (kn129 - 1))) Bs127 pi128 (kn129 - 1) Gs sv U) t142.heap := hB144; rw [hU.2] at h8; rw [← ht143]; exact h8
                      obtain rfl : r141 = nI (kn129 - 1) := h147
                      obtain ⟨hP, hD⟩ := pm_all (D := D) (cl := vwCl) (H1 := H1) hD (w' := pm_cl y L S Bs127 pi128 (kn129 - 1) Gs sv U) hB144 (pm_cl_fst ..)
                      generalize H1 = H at hP hS ⊢
                      have hC148 := pq_C_u hC126
                      have := hC126.2.2
                      have hP : va_P D vwCl (pm_cl y L S Bs127 pi128 (kn129 - 1) Gs sv U) H := hP
                      have hD : va_D (pm_ad (pm_cl y L S Bs pi kn Gs sv U)) (pm_cl y L S Bs127 pi128 (kn129 - 1) Gs sv U) := hD
                      refine kx_if_ge (tgt := 159) hx hb (by omega) dL_isDecided_154 (by decide) ?_
                      refine kx_iinc (a := c1) (lv' := [(8, .int (nI (c1 + 1))), (3, .int (nI (pm_ds S f x + 2 ^ x))), (9, .int (nI (pm_mk (S 4 f) x))), (0, .ref (L 0 0)), (1, .int (nI f)), (2, .int (nI (pm_ds S f 3))), (4, .int (nI (S 9 1))), (5, .int (nI x)), (6, .int (nI (pm_mk (S 4 f) x))), (7, .int (nI 1))]) hx hb dL_isDecided_159 hl (k := 9) rfl (by decide) rfl (fun ls hl => ?_)
                      refine lv_goto (tgt := 71) hx hb dL_isDecided_162 (by decide) ?_
                      have q149 : (nI (pq_ac S f x (c1 + 1)) : Int32) = nI (pm_ds S f x + 2 ^ x) := (congrArg nI (pq_ac_p (pq_df2 (by rw [← hT9, ← hT4]; exact (pq_wyf hT0 (by omega))) hin)))
                      exact ih91 (c1 + 1) ls H locs (Bs127, pi128, (kn129 - 1)) hP hD hS (by omega) (by omega) (by rw [q149]; exact lv_sub hl [3, 4, 5, 1, 6, 7, 8, 9, 0] rfl) hC148
                    · skip
                      refine lv_iconst (v := nI 1) hx hb dL_isDecided_102 (by decide) ?_
                      refine lv_goto (tgt := 107) hx hb dL_isDecided_103 (by decide) ?_
                      refine lv_iload hx hb dL_isDecided_107 (lv_at hl 8 rfl) ?_
                      refine lv_icmp_eq (tgt := 119) hx hb dL_isDecided_109 (by decide) (fun _ => ?_) (fun c150 => (c150 (by decide)).elim)
                      refine lv_iconst (v := nI 0) hx hb dL_isDecided_119 (by decide) ?_
                      refine lv_ior hx hb dL_isDecided_120 ?_
                      refine lv_topi (fun x151 e152 => ?_)
                      obtain rfl : x151 = nI (pq_ac S f x c1) := e152.trans (pq_or0 (by omega))
                      refine lv_istore_n (lv' := [(3, .int (nI (pq_ac S f x c1))), (9, .int (nI (pm_mk (S 4 f) x))), (0, .ref (L 0 0)), (1, .int (nI f)), (2, .int (nI (pm_ds S f 3))), (4, .int (nI (S 9 1))), (5, .int (nI x)), (6, .int (nI (pm_mk (S 4 f) x))), (7, .int (nI 1)), (8, .int (nI c1))]) hx hb dL_isDecided_121 rfl hl (by decide) rfl (fun ls hl => ?_)
                      refine lv_iload_n hx hb dL_isDecided_122 rfl (lv_at hl 0 rfl) ?_
                      refine lv_iload hx hb dL_isDecided_123 (lv_at hl 1 rfl) ?_
                      refine lv_bipush (v := (-4)) hx hb dL_isDecided_125 (by decide) ?_
                      refine lv_icmp_ne (tgt := 142) hx hb dL_isDecided_127 (by decide) (fun c153 => ?_) (fun c153 => by exfalso; exact pq_m4 (by omega) c153)
                      refine lv_iconst (v := nI 0) hx hb dL_isDecided_142 (by decide) ?_
                      refine lv_ior hx hb dL_isDecided_143 ?_
                      refine lv_topi (fun x154 e155 => ?_)
                      obtain rfl : x154 = nI (pq_ac S f x c1) := e155.trans (pq_or0 (by omega))
                      refine lv_istore_n (lv' := [(3, .int (nI (pq_ac S f x c1))), (9, .int (nI (pm_mk (S 4 f) x))), (0, .ref (L 0 0)), (1, .int (nI f)), (2, .int (nI (pm_ds S f 3))), (4, .int (nI (S 9 1))), (5, .int (nI x)), (6, .int (nI (pm_mk (S 4 f) x))), (7, .int (nI 1)), (8, .int (nI c1))]) hx hb dL_isDecided_144 rfl hl (by decide) rfl (fun ls hl => ?_)
                      refine lv_iload hx hb dL_isDecided_145 (lv_at hl 1 rfl) ?_
                      refine kx_if_lt (tgt := 159) hx hb (by omega) dL_isDecided_147 (by decide) ?_
                      refine lv_aload_n hx hb dL_isDecided_150 rfl (lv_at hl 2 rfl) ?_
                      refine va_calli (va_runV (As := []) (rest := []) ⟨hx, hb, hml, hown, hts⟩ (k_X3_undo l D y L T Bs127 pi128 kn129 Gs sv U (fun i => Bs127 (pi128 i)) Gs (pq_CI hC126) hU.1) (cwV 0 hts gL_isDecided_X3_undo rfl rfl rfl hd_X3_undo ⟨Nat.le_of_ble_eq_true rfl, Nat.le_of_ble_eq_true rfl⟩) ⟨pm_wrn_blind, va_recv hK hP (ci := 3) (q0 := 0) rfl rfl, pm_wrn_pre hP hK hD hN⟩ rfl rfl hl.1 rfl (lv_room (Nat.le_of_ble_eq_true rfl)) dL_isDecided_151 ⟨Nat.le_of_ble_eq_true rfl, Nat.le_of_ble_eq_true rfl⟩) hS (fun q _ h9 => pm_ad_all hD q h9) (pm_ad_all hD) (fun r156 u161 t157 H1 locs ht158 _ h162 hB159 _ hk160 hS => ?_)
                      have hB159 : va_P D vwCl (pm_cl y L S Bs127 pi128 (kn129 - 1) Gs sv U) H1 := by have h8 : va_P D vwCl (pm_cl y L (Bs127 (pi128 (kn129 - 1))) Bs127 pi128 (kn129 - 1) Gs sv U) t157.heap := hB159; rw [hU.2] at h8; rw [← ht158]; exact h8
                      obtain rfl : r156 = nI (kn129 - 1) := h162
                      obtain ⟨hP, hD⟩ := pm_all (D := D) (cl := vwCl) (H1 := H1) hD (w' := pm_cl y L S Bs127 pi128 (kn129 - 1) Gs sv U) hB159 (pm_cl_fst ..)
                      generalize H1 = H at hP hS ⊢
                      have hC163 := pq_C_u hC126
                      have := hC126.2.2
                      have hP : va_P D vwCl (pm_cl y L S Bs127 pi128 (kn129 - 1) Gs sv U) H := hP
                      have hD : va_D (pm_ad (pm_cl y L S Bs pi kn Gs sv U)) (pm_cl y L S Bs127 pi128 (kn129 - 1) Gs sv U) := hD
                      refine kx_if_ge (tgt := 159) hx hb (by omega) dL_isDecided_154 (by decide) ?_
                      refine kx_iinc (a := c1) (lv' := [(8, .int (nI (c1 + 1))), (3, .int (nI (pq_ac S f x c1))), (9, .int (nI (pm_mk (S 4 f) x))), (0, .ref (L 0 0)), (1, .int (nI f)), (2, .int (nI (pm_ds S f 3))), (4, .int (nI (S 9 1))), (5, .int (nI x)), (6, .int (nI (pm_mk (S 4 f) x))), (7, .int (nI 1))]) hx hb dL_isDecided_159 hl (k := 9) rfl (by decide) rfl (fun ls hl => ?_)
                      refine lv_goto (tgt := 71) hx hb dL_isDecided_162 (by decide) ?_
                      have q164 : (nI (pq_ac S f x (c1 + 1)) : Int32) = nI (pq_ac S f x c1) := (congrArg nI (pq_ac_n (pq_df3 (by rw [← hT9, ← hT4]; exact (pq_wyt hT0 (by omega))) hin)))
                      exact ih91 (c1 + 1) ls H locs (Bs127, pi128, (kn129 - 1)) hP hD hS (by omega) (by omega) (by rw [q164]; exact lv_sub hl [3, 4, 5, 1, 6, 7, 8, 9, 0] rfl) hC163
            exact LOOP71 (3 + 1) 0 ls H locs (u.1, u.2.1, u.2.2) hP hD hS (by omega) (by omega) (by rw [pq_ac0 S f x] at hl; exact lv_sub hl [3, 4, 5, 6, 7, 8, 2, 1, 0] rfl) hh38_0
    exact LOOP38 (3 + 1) 0 ls _ _ (Bs, pi, kn) hP hD hS (by omega) (by omega) (lv_sub hl [4, 5, 3, 2, 1, 0] rfl) hC
  · skip
    refine lv_iload_n hx hb dL_isDecided_25 rfl (lv_at hl 2 rfl) ?_
    refine kx_if_ne (tgt := 33) hx hb (by omega) dL_isDecided_26 (by decide) (fun c165 => by exfalso; have h9 := pq_ds0 (S := S) (f := f) (by omega) 3; omega) (fun c165 => ?_)
    refine lv_iconst (v := nI 1) hx hb dL_isDecided_29 (by decide) ?_
    refine lv_goto (tgt := 34) hx hb dL_isDecided_30 (by decide) ?_
    exact W.zret (ty := .boolean) hx hb hr rfl (fun t ht _ => ⟨⟨_, (S, Bs, pi, kn), rfl, ⟨rfl, hI, hC⟩, (by show va_P D vwCl (pm_cl y L S Bs pi kn Gs sv U) t.heap; rw [ht]; exact hP)⟩, hS.F ht⟩) hS.2.2 dL_isDecided_34
