theorem pm_fav_v (S : Nat → Nat → Nat) (f : Nat) : ∀ n j, pm_fav S f n j = S 8 j + (if j < n ∧ pm_mk (S 4 f) j = 1 then 1 else 0)
  | 0, j => by
    rw [if_neg (by omega)]
    rfl
  | n + 1, j => by
    rw [pm_fav]
    by_cases hm : pm_mk (S 4 f) n = 1
    · rw [if_pos hm]
      unfold updN
      by_cases hj : j = n
      · subst hj
        rw [if_pos rfl, pm_fav_v S f j j, if_neg (by omega), if_pos ⟨by omega, hm⟩]
      · rw [if_neg hj, pm_fav_v S f n j]
        by_cases hx : j < n ∧ pm_mk (S 4 f) j = 1
        · rw [if_pos hx, if_pos ⟨by omega, hx.2⟩]
        · rw [if_neg hx, if_neg (fun z => hx ⟨by omega, z.2⟩)]
    · rw [if_neg hm, pm_fav_v S f n j]
      by_cases hx : j < n ∧ pm_mk (S 4 f) j = 1
      · rw [if_pos hx, if_pos ⟨by omega, hx.2⟩]
      · rw [if_neg hx, if_neg (fun z => hx ⟨by
          rcases (show j < n ∨ j = n by omega) with w | w
          · exact w
          · rw [w] at z
            exact absurd z.2 hm, z.2⟩)]
theorem pm_fav3 (S : Nat → Nat → Nat) (f : Nat) : updN (updN (updN (S 8) 0 (S 8 0 + if pm_mk (S 4 f) 0 = 1 then 1 else 0)) 1 (S 8 1 + if pm_mk (S 4 f) 1 = 1 then 1 else 0)) 2 (S 8 2 + if pm_mk (S 4 f) 2 = 1 then 1 else 0) = pm_fav S f 3 := by
  funext j
  rw [pm_fav_v]
  unfold updN
  by_cases h2 : j = 2
  · subst h2; simp
  · by_cases h1 : j = 1
    · subst h1; simp
    · by_cases h0 : j = 0
      · subst h0; simp
      · rw [if_neg h2, if_neg h1, if_neg h0, if_neg (by omega)]; rfl
theorem pm_jd_1 {S : Nat → Nat → Nat} {f d : Nat} (h : pm_aft S f = 1) (hd : d = pm_dl S f) : pm_st (pm_st (pm_st (pm_st (pm_st (pm_st (pm_st (pm_st S 1 f d) 0 f (pm_aft S f)) 2 f (pm_pc (pm_tk (S 4 f)))) 3 f (S 10 0 + 1)) 8 0 (S 8 0 + if pm_mk (S 4 f) 0 = 1 then 1 else 0)) 8 1 (S 8 1 + if pm_mk (S 4 f) 1 = 1 then 1 else 0)) 8 2 (S 8 2 + if pm_mk (S 4 f) 2 = 1 then 1 else 0)) 4 f 0 = pm_jdg S f := by
  subst hd
  rw [pm_jdg_p h]
  refine pm_ext rfl rfl rfl rfl rfl rfl rfl rfl ?_ (fun d hd => ?_)
  · exact pm_fav3 S f
  · rw [pm_st_o (by omega), pm_st_o (by omega), pm_st_o (by omega), pm_st_o (by omega), pm_st_o (by omega), pm_st_o (by omega), pm_st_o (by omega), pm_st_o (by omega), pm_st_o (by omega), pm_st_o (by omega), pm_st_o (by omega), pm_chs_9 (by omega)]
theorem pm_jd_2 {S : Nat → Nat → Nat} {f d : Nat} (h : ¬ pm_aft S f = 1) (hd : d = pm_dl S f) : pm_st (pm_st (pm_st S 1 f d) 0 f (pm_aft S f)) 4 f 0 = pm_jdg S f := by
  subst hd
  rw [pm_jdg_n h]
theorem pm_jdg_h {S : Nat → Nat → Nat} {f : Nat} : pm_jdg S f 0 f = pm_aft S f := by
  unfold pm_jdg
  rw [pm_st_o (by decide), pm_st_s]
theorem pm_k2_p {x kn : Nat} (h : x < 2 ^ 31) : pm_k2 (nI x) kn = pm_kn kn := by rw [pm_k2, if_neg (nI_pos h)]
theorem pm_h2_p {x kn : Nat} {Hs : Nat → Nat → Nat → Nat} {S : Nat → Nat → Nat} (h : x < 2 ^ 31) : pm_h2 (nI x) Hs kn S = pm_push Hs kn S := by rw [pm_h2, if_neg (nI_pos h)]
theorem pm_k2_n {z : Int32} {kn : Nat} (h : z < 0) : pm_k2 z kn = kn := by rw [pm_k2, if_pos h]
theorem pm_h2_n {z : Int32} {kn : Nat} {Hs : Nat → Nat → Nat → Nat} {S : Nat → Nat → Nat} (h : z < 0) : pm_h2 z Hs kn S = Hs := by rw [pm_h2, if_pos h]
def pm_WM (S : Nat → Nat → Nat) (e f m r : Int32) : Prop := (∃ i j v, i < 3 ∧ j < 30 ∧ v < 3 ∧ e = nI i ∧ f = nI j ∧ m = nI v ∧ pm_aMark S e f m = (nI (pm_mk (S 4 j) i), pm_st S 4 j (pm_sm (S 4 j) i v)) ∧ r = nI 0) ∨ (∃ z, pm_aMark S e f m = (z, S) ∧ z < 0 ∧ r = z)
def pm_WA (S : Nat → Nat → Nat) (e o f r : Int32) : Prop := (∃ i k j, i < 3 ∧ k < 3 ∧ j < 30 ∧ e = nI i ∧ o = nI k ∧ f = nI j ∧ ¬ i = k ∧ pm_mk (S 4 j) k = 2 ∧ S 9 2 ≤ S 5 i ∧ r = nI 0) ∨ (∃ z, pm_aArgue S e o f = (z, S) ∧ z < 0 ∧ r = z)
def pm_WP (S : Nat → Nat → Nat) (f z r : Int32) : Prop := (∃ j w, j < 30 ∧ w < 4 ∧ 0 < w ∧ f = nI j ∧ z = nI w ∧ 10 * w * w ≤ S 10 1 ∧ pm_aPrint S f z = (nI (S 10 1 - 10 * w * w), pm_st (pm_st (pm_st (pm_st (pm_st S 0 j 3) 2 j w) 10 1 (S 10 1 - 10 * w * w)) 10 2 (S 10 2 + 10 * w * w)) 11 w (S 11 w + 1)) ∧ r = nI 0) ∨ (∃ c, pm_aPrint S f z = (c, S) ∧ c < 0 ∧ r = c)
def pm_CS (k v r : Int32) : Prop := (∃ i w, i < 4 ∧ w < 10 ∧ k = nI i ∧ v = nI w ∧ (∀ S, pm_aSet S k v = (nI (S 9 i), pm_st S 9 i w)) ∧ r = nI 1) ∨ ((∀ S, pm_aSet S k v = (-2, S)) ∧ r = nI 0)
set_option maxHeartbeats 4000000 in
set_option maxRecDepth 100000 in
theorem k_X4_marks (l : Launch) (D : va_G) (y : Nat → ClassId) (q : Nat → Nat) (S : Nat → Nat → Nat) (gp gs : Nat → Int32) (kn ln : Nat) (sv pd : Nat → Nat) (i f v : Nat) (ho : pm_okb (S 4 f) = true) (hi : i < 3) (hf : f < 30) (hv : v < 3) : Met l yX4_marks wsX4_marks ({ frames := 2, cells := 0, slots := 0, locals := 43 } : Room) (pm_wr D (pm_ty y) [.ref (q 0), .int (nI i), .int (nI f), .int (nI v)] (pm_mo y q S gp gs kn ln sv pd)) (pm_Qv D (fun (_ : Unit) => True) (fun (_ : Unit) => pm_mo y q (pm_st S 4 f (pm_sm (S 4 f) i v)) gp gs kn ln sv pd) (pm_mo y q S gp gs kn ln sv pd)) 0 0 (pm_ad (pm_mo y q S gp gs kn ln sv pd)) := by
  refine Met.ofW (cc := cX4_marks) (maxL := 4) (ret := none) (by decide) rfl ?_
  intro p e s m args below meth c s₁ B hml hpre
  obtain ⟨rfl, hP, hK, hD0⟩ := hpre
  have hx := B.exec
  have hb := B.bytes
  have hr := B.returns
  have hts := atoms_spec (ws := wsX4_marks) B.pre
  have hown : s.vm.findClass RX4 = some m.cls := findClass_of_methodNamed B.named
  have hlocks := B.notSynchronized
  have hin4 : ∀ w ∈ u_ws RX4 TX4 7, w ∈ wsX4_marks := fun w h => List.mem_cons_of_mem _ (List.mem_append_right _ h)
  have hD := pm_ad_self hD0
  have hS : va_S (pm_ad (pm_mo y q S gp gs kn ln sv pd)) s.heap s.heap [] := va_S.rf
  have hP : va_P D vwCl (pm_mo y q S gp gs kn ln sv pd) s.heap := hP
  have hl := lv_entry ([.ref (q 0), .int (nI i), .int (nI f), .int (nI v)]) (n := 4) (Nat.le_of_ble_eq_true rfl)
  rw [lg_entry_eq]
  generalize (lg_sl ([.ref (q 0), .int (nI i), .int (nI f), .int (nI v)]) ++ List.replicate (4 - (lg_sl ([.ref (q 0), .int (nI i), .int (nI f), .int (nI v)])).length) Slot.unset).toArray = ls at hl ⊢
  have hl : lv_has ls 4 [(0, .ref (q 0)), (1, .int (nI i)), (2, .int (nI f)), (3, .int (nI v))] := hl
  refine lv_aload_n hx hb dX4_marks_0 rfl (lv_at hl 0 rfl) ?_
  refine va_get (D := D) (ci := 4) (v := .ref (q 1)) (C := RX4) (T := TX4) (N := 7) hx hb hts hin4 hown hK hP 0 rfl rfl 0 (by decide) (hts (.fieldLink RX4 7 "ProofMarksModel" "s" "[I") (List.mem_of_getElem? (i := 1) rfl)) (fun _ h9 => h9) rfl dX4_marks_1 ?_
  refine lv_iload_n hx hb dX4_marks_4 rfl (lv_at hl 2 rfl) ?_
  refine lv_iconst (v := nI 4) hx hb dX4_marks_5 (by decide) ?_
  refine vp_callSi (W.runS (As := [.int (nI f), .int (nI 4)]) (rest := [.ref (q 1)]) ⟨hx, hb, hml, hown, hts⟩ (k_X4_at l f 4) (va_cwS 2 hts gX4_marks_X4_at rfl rfl rfl hd_X4_at ⟨Nat.le_of_ble_eq_true rfl, Nat.le_of_ble_eq_true rfl⟩) ⟨pm_no_blind, pm_no_pre⟩ rfl rfl hl.1 rfl (lv_room (Nat.le_of_ble_eq_true rfl)) dX4_marks_6 ⟨Nat.le_of_ble_eq_true rfl, Nat.le_of_ble_eq_true rfl⟩) (fun r1 h2 => ?_)
  obtain rfl : r1 = nI (5 * f + 4) := h2
  refine lv_dup2_11 hx hb dX4_marks_9 rfl rfl ?_
  refine kx_iald (v := nI (S 4 f)) hx hb hK hP 1 0 rfl rfl (by omega) (by decide) (pm_ms_f (S := S) (f := f) 4 (by decide) (by decide) (by omega)) dX4_marks_10 ?_
  refine lv_iload_n hx hb dX4_marks_11 rfl (lv_at hl 1 rfl) ?_
  refine vp_callSi (W.runS (As := [.int (nI i)]) (rest := [.int (nI (S 4 f)), .int (nI (5 * f + 4)), .ref (q 1)]) ⟨hx, hb, hml, hown, hts⟩ (k_X4_power l i (by omega)) (va_cwS 1 hts gX4_marks_X4_power rfl rfl rfl hd_X4_power ⟨Nat.le_of_ble_eq_true rfl, Nat.le_of_ble_eq_true rfl⟩) ⟨pm_no_blind, pm_no_pre⟩ rfl rfl hl.1 rfl (lv_room (Nat.le_of_ble_eq_true rfl)) dX4_marks_12 ⟨Nat.le_of_ble_eq_true rfl, Nat.le_of_ble_eq_true rfl⟩) (fun r3 h4 => ?_)
  obtain rfl : r3 = nI (4 ^ i) := h4
  have := pm_p4 i (by omega)
  refine lv_iload_n hx hb dX4_marks_15 rfl (lv_at hl 3 rfl) ?_
  refine lv_aload_n hx hb dX4_marks_16 rfl (lv_at hl 0 rfl) ?_
  refine lv_iload_n hx hb dX4_marks_17 rfl (lv_at hl 1 rfl) ?_
  refine lv_iload_n hx hb dX4_marks_18 rfl (lv_at hl 2 rfl) ?_
  refine vp_callSi (W.runV (As := [.int (nI i), .int (nI f)]) (rest := [.int (nI v), .int (nI (4 ^ i)), .int (nI (S 4 f)), .int (nI (5 * f + 4)), .ref (q 1)]) ⟨hx, hb, hml, hown, hts⟩ (k_X4_markOf l D y q S gp gs kn ln sv pd i f ho (by omega) (by omega)) (cwV 2 hts gX4_marks_X4_markOf rfl rfl rfl hd_X4_markOf ⟨Nat.le_of_ble_eq_true rfl, Nat.le_of_ble_eq_true rfl⟩) ⟨pm_ro_blind, va_recv hK hP (ci := 4) (q0 := 0) rfl rfl, pm_ro_pre hP hK⟩ rfl rfl hl.1 rfl (lv_room (Nat.le_of_ble_eq_true rfl)) dX4_marks_19 ⟨Nat.le_of_ble_eq_true rfl, Nat.le_of_ble_eq_true rfl⟩) (fun r5 h6 => ?_)
  obtain rfl : r5 = nI (pm_mk (S 4 f) i) := h6
  have := pm_lt4 (S 4 f) i
  refine lv_isub hx hb dX4_marks_22 ?_
  refine lv_imul hx hb dX4_marks_23 ?_
  refine lv_iadd hx hb dX4_marks_24 ?_
  refine lv_topi (fun x7 e8 => ?_)
  obtain rfl : x7 = nI (pm_sm (S 4 f) i v) := e8.trans (pm_mrk ho hi hv)
  refine kx_iast (ws' := pm_mo y q (pm_st S 4 f (pm_sm (S 4 f) i v)) gp gs kn ln sv pd) hx hb hK hP hD hS 1 0 rfl rfl (by omega) (by decide) (pm_ms_wf (f := f) 4 (by decide) (by decide) (by omega)) rfl dX4_marks_25 (fun H locs hP hD hS => ?_)
  exact W.vret hx hb hr (fun t ht _ => ⟨⟨(), rfl, trivial, (by show va_P D vwCl (pm_mo y q (pm_st S 4 f (pm_sm (S 4 f) i v)) gp gs kn ln sv pd) t.heap; rw [ht]; exact hP)⟩, hS.F ht⟩) hS.2.2 dX4_marks_26

set_option maxHeartbeats 4000000 in
set_option maxRecDepth 100000 in
theorem k_X4_judges (l : Launch) (D : va_G) (y : Nat → ClassId) (q : Nat → Nat) (S : Nat → Nat → Nat) (gp gs : Nat → Int32) (kn ln : Nat) (sv pd : Nat → Nat) (f : Nat) (ho : pm_okb (S 4 f) = true) (hs : S 9 0 ≤ 9) (hs3 : S 9 3 ≤ 9) (hd : S 1 f ≤ 99) (hrd : S 10 0 ≤ 99) (hf : f < 30) : Met l yX4_judges wsX4_judges ({ frames := 4, cells := 0, slots := 0, locals := 91 } : Room) (pm_wr D (pm_ty y) [.ref (q 0), .int (nI f)] (pm_mo y q S gp gs kn ln sv pd)) (pm_Qv D (fun (_ : Unit) => True) (fun (_ : Unit) => pm_mo y q (pm_jdg S f) gp gs kn ln sv pd) (pm_mo y q S gp gs kn ln sv pd)) 0 0 (pm_ad (pm_mo y q S gp gs kn ln sv pd)) := by
  refine Met.ofW (cc := cX4_judges) (maxL := 6) (ret := none) (by decide) rfl ?_
  intro p e s m args below meth c s₁ B hml hpre
  obtain ⟨rfl, hP, hK, hD0⟩ := hpre
  have hx := B.exec
  have hb := B.bytes
  have hr := B.returns
  have hts := atoms_spec (ws := wsX4_judges) B.pre
  have hown : s.vm.findClass RX4 = some m.cls := findClass_of_methodNamed B.named
  have hlocks := B.notSynchronized
  have hin4 : ∀ w ∈ u_ws RX4 TX4 7, w ∈ wsX4_judges := fun w h => List.mem_cons_of_mem _ (List.mem_append_right _ h)
  have hD := pm_ad_self hD0
  have hS : va_S (pm_ad (pm_mo y q S gp gs kn ln sv pd)) s.heap s.heap [] := va_S.rf
  have hP : va_P D vwCl (pm_mo y q S gp gs kn ln sv pd) s.heap := hP
  have hl := lv_entry ([.ref (q 0), .int (nI f)]) (n := 6) (Nat.le_of_ble_eq_true rfl)
  rw [lg_entry_eq]
  generalize (lg_sl ([.ref (q 0), .int (nI f)]) ++ List.replicate (6 - (lg_sl ([.ref (q 0), .int (nI f)])).length) Slot.unset).toArray = ls at hl ⊢
  have hl : lv_has ls 6 [(0, .ref (q 0)), (1, .int (nI f))] := hl
  refine lv_aload_n hx hb dX4_judges_0 rfl (lv_at hl 0 rfl) ?_
  refine lv_iload_n hx hb dX4_judges_1 rfl (lv_at hl 1 rfl) ?_
  refine vp_callSi (W.runV (As := [.int (nI f)]) (rest := []) ⟨hx, hb, hml, hown, hts⟩ (k_X4_then l D y q S gp gs kn ln sv pd f ho hs hs3 hd (by omega)) (cwV 1 hts gX4_judges_X4_then rfl rfl rfl hd_X4_then ⟨Nat.le_of_ble_eq_true rfl, Nat.le_of_ble_eq_true rfl⟩) ⟨pm_ro_blind, va_recv hK hP (ci := 4) (q0 := 0) rfl rfl, pm_ro_pre hP hK⟩ rfl rfl hl.1 rfl (lv_room (Nat.le_of_ble_eq_true rfl)) dX4_judges_2 ⟨Nat.le_of_ble_eq_true rfl, Nat.le_of_ble_eq_true rfl⟩) (fun r1 h2 => ?_)
  obtain rfl : r1 = nI (pm_aft S f) := h2
  have := pm_aft3 S f
  refine lv_istore_n (lv' := [(2, .int (nI (pm_aft S f))), (0, .ref (q 0)), (1, .int (nI f))]) hx hb dX4_judges_5 rfl hl (by decide) rfl (fun ls hl => ?_)
  refine lv_aload_n hx hb dX4_judges_6 rfl (lv_at hl 1 rfl) ?_
  refine lv_iload_n hx hb dX4_judges_7 rfl (lv_at hl 2 rfl) ?_
  refine lv_iconst (v := nI 1) hx hb dX4_judges_8 (by decide) ?_
  refine vp_callSi (W.runV (As := [.int (nI f), .int (nI 1)]) (rest := []) ⟨hx, hb, hml, hown, hts⟩ (k_X4_withMark l D y q S gp gs kn ln sv pd f 1 ho (by omega) (by decide)) (cwV 2 hts gX4_judges_X4_withMark rfl rfl rfl hd_X4_withMark ⟨Nat.le_of_ble_eq_true rfl, Nat.le_of_ble_eq_true rfl⟩) ⟨pm_ro_blind, va_recv hK hP (ci := 4) (q0 := 0) rfl rfl, pm_ro_pre hP hK⟩ rfl rfl hl.1 rfl (lv_room (Nat.le_of_ble_eq_true rfl)) dX4_judges_9 ⟨Nat.le_of_ble_eq_true rfl, Nat.le_of_ble_eq_true rfl⟩) (fun r3 h4 => ?_)
  obtain rfl : r3 = nI (pm_tk (S 4 f)) := (show r3 = nI (pm_wm (S 4 f) 1 3) from h4).trans (congrArg nI (pm_wm_tk _))
  have := pm_tk8 (S 4 f)
  refine lv_istore_n (lv' := [(3, .int (nI (pm_tk (S 4 f)))), (2, .int (nI (pm_aft S f))), (0, .ref (q 0)), (1, .int (nI f))]) hx hb dX4_judges_12 rfl hl (by decide) rfl (fun ls hl => ?_)
  refine lv_aload_n hx hb dX4_judges_13 rfl (lv_at hl 2 rfl) ?_
  refine va_get (D := D) (ci := 4) (v := .ref (q 1)) (C := RX4) (T := TX4) (N := 7) hx hb hts hin4 hown hK hP 0 rfl rfl 0 (by decide) (hts (.fieldLink RX4 7 "ProofMarksModel" "s" "[I") (List.mem_of_getElem? (i := 1) rfl)) (fun _ h9 => h9) rfl dX4_judges_14 ?_
  refine lv_iload_n hx hb dX4_judges_17 rfl (lv_at hl 3 rfl) ?_
  refine lv_iconst (v := nI 4) hx hb dX4_judges_18 (by decide) ?_
  refine vp_callSi (W.runS (As := [.int (nI f), .int (nI 4)]) (rest := [.ref (q 1)]) ⟨hx, hb, hml, hown, hts⟩ (k_X4_at l f 4) (va_cwS 2 hts gX4_judges_X4_at rfl rfl rfl hd_X4_at ⟨Nat.le_of_ble_eq_true rfl, Nat.le_of_ble_eq_true rfl⟩) ⟨pm_no_blind, pm_no_pre⟩ rfl rfl hl.1 rfl (lv_room (Nat.le_of_ble_eq_true rfl)) dX4_judges_19 ⟨Nat.le_of_ble_eq_true rfl, Nat.le_of_ble_eq_true rfl⟩) (fun r5 h6 => ?_)
  obtain rfl : r5 = nI (5 * f + 4) := h6
  refine kx_iald (v := nI (S 4 f)) hx hb hK hP 1 0 rfl rfl (by omega) (by decide) (pm_ms_f (S := S) (f := f) 4 (by decide) (by decide) (by omega)) dX4_judges_22 ?_
  have := pm_okb64 ho
  refine kx_if_ne (tgt := 30) hx hb (by omega) dX4_judges_23 (by decide) (fun c7 => ?_) (fun c7 => ?_)
  · skip
    refine lv_iconst (v := nI 0) hx hb dX4_judges_30 (by decide) ?_
    refine lv_istore (lv' := [(4, .int (nI 0)), (3, .int (nI (pm_tk (S 4 f)))), (2, .int (nI (pm_aft S f))), (0, .ref (q 0)), (1, .int (nI f))]) hx hb dX4_judges_31 hl (by decide) rfl (fun ls hl => ?_)
    refine lv_aload_n hx hb dX4_judges_33 rfl (lv_at hl 3 rfl) ?_
    refine va_get (D := D) (ci := 4) (v := .ref (q 1)) (C := RX4) (T := TX4) (N := 7) hx hb hts hin4 hown hK hP 0 rfl rfl 0 (by decide) (hts (.fieldLink RX4 7 "ProofMarksModel" "s" "[I") (List.mem_of_getElem? (i := 1) rfl)) (fun _ h9 => h9) rfl dX4_judges_34 ?_
    refine lv_iload_n hx hb dX4_judges_37 rfl (lv_at hl 4 rfl) ?_
    refine lv_iconst (v := nI 1) hx hb dX4_judges_38 (by decide) ?_
    refine vp_callSi (W.runS (As := [.int (nI f), .int (nI 1)]) (rest := [.ref (q 1)]) ⟨hx, hb, hml, hown, hts⟩ (k_X4_at l f 1) (va_cwS 2 hts gX4_judges_X4_at rfl rfl rfl hd_X4_at ⟨Nat.le_of_ble_eq_true rfl, Nat.le_of_ble_eq_true rfl⟩) ⟨pm_no_blind, pm_no_pre⟩ rfl rfl hl.1 rfl (lv_room (Nat.le_of_ble_eq_true rfl)) dX4_judges_39 ⟨Nat.le_of_ble_eq_true rfl, Nat.le_of_ble_eq_true rfl⟩) (fun r8 h9 => ?_)
    obtain rfl : r8 = nI (5 * f + 1) := h9
    refine lv_iload hx hb dX4_judges_42 (lv_at hl 0 rfl) ?_
    refine lv_if_eq (tgt := 62) hx hb dX4_judges_44 (by decide) (fun _ => ?_) (fun c10 => (c10 (by decide)).elim)
    refine lv_iconst (v := nI 0) hx hb dX4_judges_62 (by decide) ?_
    refine kx_iast (ws' := pm_mo y q (pm_st S 1 f 0) gp gs kn ln sv pd) hx hb hK hP hD hS 1 0 rfl rfl (by omega) (by decide) (pm_ms_wf (f := f) 1 (by decide) (by decide) (by omega)) rfl dX4_judges_63 (fun H locs hP hD hS => ?_)
    refine lv_aload_n hx hb dX4_judges_64 rfl (lv_at hl 3 rfl) ?_
    refine va_get (D := D) (ci := 4) (v := .ref (q 1)) (C := RX4) (T := TX4) (N := 7) hx hb hts hin4 hown hK hP 0 rfl rfl 0 (by decide) (hts (.fieldLink RX4 7 "ProofMarksModel" "s" "[I") (List.mem_of_getElem? (i := 1) rfl)) (fun _ h9 => h9) rfl dX4_judges_65 ?_
    refine lv_iload_n hx hb dX4_judges_68 rfl (lv_at hl 4 rfl) ?_
    refine lv_iconst (v := nI 0) hx hb dX4_judges_69 (by decide) ?_
    refine vp_callSi (W.runS (As := [.int (nI f), .int (nI 0)]) (rest := [.ref (q 1)]) ⟨hx, hb, hml, hown, hts⟩ (k_X4_at l f 0) (va_cwS 2 hts gX4_judges_X4_at rfl rfl rfl hd_X4_at ⟨Nat.le_of_ble_eq_true rfl, Nat.le_of_ble_eq_true rfl⟩) ⟨pm_no_blind, pm_no_pre⟩ rfl rfl hl.1 rfl (lv_room (Nat.le_of_ble_eq_true rfl)) dX4_judges_70 ⟨Nat.le_of_ble_eq_true rfl, Nat.le_of_ble_eq_true rfl⟩) (fun r11 h12 => ?_)
    obtain rfl : r11 = nI (5 * f + 0) := h12
    refine lv_iload_n hx hb dX4_judges_73 rfl (lv_at hl 2 rfl) ?_
    refine kx_iast (ws' := pm_mo y q (pm_st (pm_st S 1 f 0) 0 f (pm_aft S f)) gp gs kn ln sv pd) hx hb hK hP hD hS 1 0 rfl rfl (by omega) (by decide) (pm_ms_wf (f := f) 0 (by decide) (by decide) (by omega)) rfl dX4_judges_74 (fun H locs hP hD hS => ?_)
    refine lv_iload_n hx hb dX4_judges_75 rfl (lv_at hl 2 rfl) ?_
    refine lv_iconst (v := nI 1) hx hb dX4_judges_76 (by decide) ?_
    refine kx_icmp_ne (tgt := 147) hx hb (by omega) (by decide) dX4_judges_77 (by decide) (fun c13 => ?_) (fun c13 => ?_)
    · skip
      refine lv_aload_n hx hb dX4_judges_147 rfl (lv_at hl 3 rfl) ?_
      refine va_get (D := D) (ci := 4) (v := .ref (q 1)) (C := RX4) (T := TX4) (N := 7) hx hb hts hin4 hown hK hP 0 rfl rfl 0 (by decide) (hts (.fieldLink RX4 7 "ProofMarksModel" "s" "[I") (List.mem_of_getElem? (i := 1) rfl)) (fun _ h9 => h9) rfl dX4_judges_148 ?_
      refine lv_iload_n hx hb dX4_judges_151 rfl (lv_at hl 4 rfl) ?_
      refine lv_iconst (v := nI 4) hx hb dX4_judges_152 (by decide) ?_
      refine vp_callSi (W.runS (As := [.int (nI f), .int (nI 4)]) (rest := [.ref (q 1)]) ⟨hx, hb, hml, hown, hts⟩ (k_X4_at l f 4) (va_cwS 2 hts gX4_judges_X4_at rfl rfl rfl hd_X4_at ⟨Nat.le_of_ble_eq_true rfl, Nat.le_of_ble_eq_true rfl⟩) ⟨pm_no_blind, pm_no_pre⟩ rfl rfl hl.1 rfl (lv_room (Nat.le_of_ble_eq_true rfl)) dX4_judges_153 ⟨Nat.le_of_ble_eq_true rfl, Nat.le_of_ble_eq_true rfl⟩) (fun r14 h15 => ?_)
      obtain rfl : r14 = nI (5 * f + 4) := h15
      refine lv_iconst (v := nI 0) hx hb dX4_judges_156 (by decide) ?_
      refine kx_iast (ws' := pm_mo y q (pm_st (pm_st (pm_st S 1 f 0) 0 f (pm_aft S f)) 4 f 0) gp gs kn ln sv pd) hx hb hK hP hD hS 1 0 rfl rfl (by omega) (by decide) (pm_ms_wf (f := f) 4 (by decide) (by decide) (by omega)) rfl dX4_judges_157 (fun H locs hP hD hS => ?_)
      have E : (pm_st (pm_st (pm_st S 1 f 0) 0 f (pm_aft S f)) 4 f 0) = pm_jdg S f := pm_jd_2 (by assumption) (by first | exact (pm_dl_1 (by assumption)).symm | exact (pm_dl_0 (by assumption)).symm)
      exact W.vret hx hb hr (fun t ht _ => ⟨⟨(), rfl, trivial, (by show va_P D vwCl (pm_mo y q (pm_jdg S f) gp gs kn ln sv pd) t.heap; rw [ht]; exact (by rw [← E]; exact hP))⟩, hS.F ht⟩) hS.2.2 dX4_judges_158
    · skip
      refine lv_aload_n hx hb dX4_judges_80 rfl (lv_at hl 3 rfl) ?_
      refine va_get (D := D) (ci := 4) (v := .ref (q 1)) (C := RX4) (T := TX4) (N := 7) hx hb hts hin4 hown hK hP 0 rfl rfl 0 (by decide) (hts (.fieldLink RX4 7 "ProofMarksModel" "s" "[I") (List.mem_of_getElem? (i := 1) rfl)) (fun _ h9 => h9) rfl dX4_judges_81 ?_
      refine lv_iload_n hx hb dX4_judges_84 rfl (lv_at hl 4 rfl) ?_
      refine lv_iconst (v := nI 2) hx hb dX4_judges_85 (by decide) ?_
      refine vp_callSi (W.runS (As := [.int (nI f), .int (nI 2)]) (rest := [.ref (q 1)]) ⟨hx, hb, hml, hown, hts⟩ (k_X4_at l f 2) (va_cwS 2 hts gX4_judges_X4_at rfl rfl rfl hd_X4_at ⟨Nat.le_of_ble_eq_true rfl, Nat.le_of_ble_eq_true rfl⟩) ⟨pm_no_blind, pm_no_pre⟩ rfl rfl hl.1 rfl (lv_room (Nat.le_of_ble_eq_true rfl)) dX4_judges_86 ⟨Nat.le_of_ble_eq_true rfl, Nat.le_of_ble_eq_true rfl⟩) (fun r16 h17 => ?_)
      obtain rfl : r16 = nI (5 * f + 2) := h17
      refine lv_iload_n hx hb dX4_judges_89 rfl (lv_at hl 1 rfl) ?_
      refine vp_callSi (W.runS (As := [.int (nI (pm_tk (S 4 f)))]) (rest := [.int (nI (5 * f + 2)), .ref (q 1)]) ⟨hx, hb, hml, hown, hts⟩ (k_X4_ones l (pm_tk (S 4 f)) (by omega)) (va_cwS 1 hts gX4_judges_X4_ones rfl rfl rfl hd_X4_ones ⟨Nat.le_of_ble_eq_true rfl, Nat.le_of_ble_eq_true rfl⟩) ⟨pm_no_blind, pm_no_pre⟩ rfl rfl hl.1 rfl (lv_room (Nat.le_of_ble_eq_true rfl)) dX4_judges_90 ⟨Nat.le_of_ble_eq_true rfl, Nat.le_of_ble_eq_true rfl⟩) (fun r18 h19 => ?_)
      obtain rfl : r18 = nI (pm_pc (pm_tk (S 4 f))) := h19
      have := pm_pc4 (pm_tk (S 4 f))
      refine kx_iast (ws' := pm_mo y q (pm_st (pm_st (pm_st S 1 f 0) 0 f (pm_aft S f)) 2 f (pm_pc (pm_tk (S 4 f)))) gp gs kn ln sv pd) hx hb hK hP hD hS 1 0 rfl rfl (by omega) (by decide) (pm_ms_wf (f := f) 2 (by decide) (by decide) (by omega)) rfl dX4_judges_93 (fun H locs hP hD hS => ?_)
      refine lv_aload_n hx hb dX4_judges_94 rfl (lv_at hl 3 rfl) ?_
      refine va_get (D := D) (ci := 4) (v := .ref (q 1)) (C := RX4) (T := TX4) (N := 7) hx hb hts hin4 hown hK hP 0 rfl rfl 0 (by decide) (hts (.fieldLink RX4 7 "ProofMarksModel" "s" "[I") (List.mem_of_getElem? (i := 1) rfl)) (fun _ h9 => h9) rfl dX4_judges_95 ?_
      refine lv_iload_n hx hb dX4_judges_98 rfl (lv_at hl 4 rfl) ?_
      refine lv_iconst (v := nI 3) hx hb dX4_judges_99 (by decide) ?_
      refine vp_callSi (W.runS (As := [.int (nI f), .int (nI 3)]) (rest := [.ref (q 1)]) ⟨hx, hb, hml, hown, hts⟩ (k_X4_at l f 3) (va_cwS 2 hts gX4_judges_X4_at rfl rfl rfl hd_X4_at ⟨Nat.le_of_ble_eq_true rfl, Nat.le_of_ble_eq_true rfl⟩) ⟨pm_no_blind, pm_no_pre⟩ rfl rfl hl.1 rfl (lv_room (Nat.le_of_ble_eq_true rfl)) dX4_judges_100 ⟨Nat.le_of_ble_eq_true rfl, Nat.le_of_ble_eq_true rfl⟩) (fun r20 h21 => ?_)
      obtain rfl : r20 = nI (5 * f + 3) := h21
      refine lv_aload_n hx hb dX4_judges_103 rfl (lv_at hl 3 rfl) ?_
      refine va_get (D := D) (ci := 4) (v := .ref (q 1)) (C := RX4) (T := TX4) (N := 7) hx hb hts hin4 hown hK hP 0 rfl rfl 0 (by decide) (hts (.fieldLink RX4 7 "ProofMarksModel" "s" "[I") (List.mem_of_getElem? (i := 1) rfl)) (fun _ h9 => h9) rfl dX4_judges_104 ?_
      refine lv_sipush (v := nI 166) hx hb dX4_judges_107 (by decide) ?_
      refine kx_iald (v := nI (S 10 0)) hx hb hK hP 1 0 rfl rfl (by omega) (by decide) ((pm_ms_r (S := (pm_st (pm_st (pm_st S 1 f 0) 0 f (pm_aft S f)) 2 f (pm_pc (pm_tk (S 4 f))))) (k := 0) (by decide)).trans (congrArg nI (by simp [pm_st, updN]))) dX4_judges_110 ?_
      refine lv_topi (fun x22 e23 => ?_)
      obtain rfl : x22 = pm_rm (S 10 0 + 1) := e23.trans ((nI_pred (S 10 0)).symm)
      refine kx_iast (ws' := pm_mo y q (pm_st (pm_st (pm_st (pm_st S 1 f 0) 0 f (pm_aft S f)) 2 f (pm_pc (pm_tk (S 4 f)))) 3 f (S 10 0 + 1)) gp gs kn ln sv pd) hx hb hK hP hD hS 1 0 rfl rfl (by omega) (by decide) (pm_ms_w3 (f := f) (by omega)) rfl dX4_judges_111 (fun H locs hP hD hS => ?_)
      refine lv_iconst (v := nI 0) hx hb dX4_judges_112 (by decide) ?_
      refine lv_istore (lv' := [(5, .int (nI 0)), (4, .int (nI 0)), (3, .int (nI (pm_tk (S 4 f)))), (2, .int (nI (pm_aft S f))), (0, .ref (q 0)), (1, .int (nI f))]) hx hb dX4_judges_113 hl (by decide) rfl (fun ls hl => ?_)
      refine lv_iload hx hb dX4_judges_115 (lv_at hl 0 rfl) ?_
      refine lv_iconst (v := nI 3) hx hb dX4_judges_117 (by decide) ?_
      refine lv_icmp_ge (tgt := 147) hx hb dX4_judges_118 (by decide) (fun c24 => absurd c24 (by decide)) (fun _ => ?_)
      refine lv_aload_n hx hb dX4_judges_121 rfl (lv_at hl 4 rfl) ?_
      refine va_get (D := D) (ci := 4) (v := .ref (q 1)) (C := RX4) (T := TX4) (N := 7) hx hb hts hin4 hown hK hP 0 rfl rfl 0 (by decide) (hts (.fieldLink RX4 7 "ProofMarksModel" "s" "[I") (List.mem_of_getElem? (i := 1) rfl)) (fun _ h9 => h9) rfl dX4_judges_122 ?_
      refine lv_iload hx hb dX4_judges_125 (lv_at hl 0 rfl) ?_
      refine lv_iconst (v := nI 3) hx hb dX4_judges_127 (by decide) ?_
      refine vp_callSi (W.runS (As := [.int (nI 0), .int (nI 3)]) (rest := [.ref (q 1)]) ⟨hx, hb, hml, hown, hts⟩ (k_X4_of3 l 0 3) (va_cwS 2 hts gX4_judges_X4_of3 rfl rfl rfl hd_X4_of3 ⟨Nat.le_of_ble_eq_true rfl, Nat.le_of_ble_eq_true rfl⟩) ⟨pm_no_blind, pm_no_pre⟩ rfl rfl hl.1 rfl (lv_room (Nat.le_of_ble_eq_true rfl)) dX4_judges_128 ⟨Nat.le_of_ble_eq_true rfl, Nat.le_of_ble_eq_true rfl⟩) (fun r25 h26 => ?_)
      obtain rfl : r25 = nI (150 + 4 * 0 + 3) := h26
      refine lv_dup2_11 hx hb dX4_judges_131 rfl rfl ?_
      refine kx_iald (v := nI (S 8 0)) hx hb hK hP 1 0 rfl rfl (by omega) (by decide) ((pm_ms_e (S := (pm_st (pm_st (pm_st (pm_st S 1 f 0) 0 f (pm_aft S f)) 2 f (pm_pc (pm_tk (S 4 f)))) 3 f (S 10 0 + 1))) (e := 0) 3 (by decide) (by omega)).trans (congrArg nI (by simp [pm_st, updN]))) dX4_judges_132 ?_
      refine lv_iload_n hx hb dX4_judges_133 rfl (lv_at hl 2 rfl) ?_
      refine lv_iload hx hb dX4_judges_134 (lv_at hl 0 rfl) ?_
      refine lv_ishr hx hb dX4_judges_136 ?_
      refine lv_iconst (v := nI 1) hx hb dX4_judges_137 (by decide) ?_
      refine lv_iand hx hb dX4_judges_138 ?_
      refine lv_topi (fun x27 e28 => ?_)
      obtain rfl : x27 = nI (if pm_mk (S 4 f) 0 = 1 then 1 else 0) := e28.trans (pm_T9 (S 4 f) (pm_okb64 ho) 0 (by decide))
      refine kx_iadd hx hb dX4_judges_139 ?_
      refine kx_iast (ws' := pm_mo y q (pm_st (pm_st (pm_st (pm_st (pm_st S 1 f 0) 0 f (pm_aft S f)) 2 f (pm_pc (pm_tk (S 4 f)))) 3 f (S 10 0 + 1)) 8 0 ((S 8 0) + (if pm_mk (S 4 f) 0 = 1 then 1 else 0))) gp gs kn ln sv pd) hx hb hK hP hD hS 1 0 rfl rfl (by omega) (by decide) (pm_ms_we (e := 0) 3 (by decide) (by omega)) rfl dX4_judges_140 (fun H locs hP hD hS => ?_)
      refine lv_iinc (v := nI 1) (lv' := [(5, .int (nI 1)), (4, .int (nI 0)), (3, .int (nI (pm_tk (S 4 f)))), (2, .int (nI (pm_aft S f))), (0, .ref (q 0)), (1, .int (nI f))]) hx hb dX4_judges_141 hl (k := 0) rfl (by decide) (by decide) rfl (fun ls hl => ?_)
      refine lv_goto (tgt := 115) hx hb dX4_judges_144 (by decide) ?_
      refine lv_iload hx hb dX4_judges_115 (lv_at hl 0 rfl) ?_
      refine lv_iconst (v := nI 3) hx hb dX4_judges_117 (by decide) ?_
      refine lv_icmp_ge (tgt := 147) hx hb dX4_judges_118 (by decide) (fun c29 => absurd c29 (by decide)) (fun _ => ?_)
      refine lv_aload_n hx hb dX4_judges_121 rfl (lv_at hl 4 rfl) ?_
      refine va_get (D := D) (ci := 4) (v := .ref (q 1)) (C := RX4) (T := TX4) (N := 7) hx hb hts hin4 hown hK hP 0 rfl rfl 0 (by decide) (hts (.fieldLink RX4 7 "ProofMarksModel" "s" "[I") (List.mem_of_getElem? (i := 1) rfl)) (fun _ h9 => h9) rfl dX4_judges_122 ?_
      refine lv_iload hx hb dX4_judges_125 (lv_at hl 0 rfl) ?_
      refine lv_iconst (v := nI 3) hx hb dX4_judges_127 (by decide) ?_
      refine vp_callSi (W.runS (As := [.int (nI 1), .int (nI 3)]) (rest := [.ref (q 1)]) ⟨hx, hb, hml, hown, hts⟩ (k_X4_of3 l 1 3) (va_cwS 2 hts gX4_judges_X4_of3 rfl rfl rfl hd_X4_of3 ⟨Nat.le_of_ble_eq_true rfl, Nat.le_of_ble_eq_true rfl⟩) ⟨pm_no_blind, pm_no_pre⟩ rfl rfl hl.1 rfl (lv_room (Nat.le_of_ble_eq_true rfl)) dX4_judges_128 ⟨Nat.le_of_ble_eq_true rfl, Nat.le_of_ble_eq_true rfl⟩) (fun r30 h31 => ?_)
      obtain rfl : r30 = nI (150 + 4 * 1 + 3) := h31
      refine lv_dup2_11 hx hb dX4_judges_131 rfl rfl ?_
      refine kx_iald (v := nI (S 8 1)) hx hb hK hP 1 0 rfl rfl (by omega) (by decide) ((pm_ms_e (S := (pm_st (pm_st (pm_st (pm_st (pm_st S 1 f 0) 0 f (pm_aft S f)) 2 f (pm_pc (pm_tk (S 4 f)))) 3 f (S 10 0 + 1)) 8 0 ((S 8 0) + (if pm_mk (S 4 f) 0 = 1 then 1 else 0)))) (e := 1) 3 (by decide) (by omega)).trans (congrArg nI (by simp [pm_st, updN]))) dX4_judges_132 ?_
      refine lv_iload_n hx hb dX4_judges_133 rfl (lv_at hl 2 rfl) ?_
      refine lv_iload hx hb dX4_judges_134 (lv_at hl 0 rfl) ?_
      refine lv_ishr hx hb dX4_judges_136 ?_
      refine lv_iconst (v := nI 1) hx hb dX4_judges_137 (by decide) ?_
      refine lv_iand hx hb dX4_judges_138 ?_
      refine lv_topi (fun x32 e33 => ?_)
      obtain rfl : x32 = nI (if pm_mk (S 4 f) 1 = 1 then 1 else 0) := e33.trans (pm_T9 (S 4 f) (pm_okb64 ho) 1 (by decide))
      refine kx_iadd hx hb dX4_judges_139 ?_
      refine kx_iast (ws' := pm_mo y q (pm_st (pm_st (pm_st (pm_st (pm_st (pm_st S 1 f 0) 0 f (pm_aft S f)) 2 f (pm_pc (pm_tk (S 4 f)))) 3 f (S 10 0 + 1)) 8 0 ((S 8 0) + (if pm_mk (S 4 f) 0 = 1 then 1 else 0))) 8 1 ((S 8 1) + (if pm_mk (S 4 f) 1 = 1 then 1 else 0))) gp gs kn ln sv pd) hx hb hK hP hD hS 1 0 rfl rfl (by omega) (by decide) (pm_ms_we (e := 1) 3 (by decide) (by omega)) rfl dX4_judges_140 (fun H locs hP hD hS => ?_)
      refine lv_iinc (v := nI 2) (lv' := [(5, .int (nI 2)), (4, .int (nI 0)), (3, .int (nI (pm_tk (S 4 f)))), (2, .int (nI (pm_aft S f))), (0, .ref (q 0)), (1, .int (nI f))]) hx hb dX4_judges_141 hl (k := 0) rfl (by decide) (by decide) rfl (fun ls hl => ?_)
      refine lv_goto (tgt := 115) hx hb dX4_judges_144 (by decide) ?_
      refine lv_iload hx hb dX4_judges_115 (lv_at hl 0 rfl) ?_
      refine lv_iconst (v := nI 3) hx hb dX4_judges_117 (by decide) ?_
      refine lv_icmp_ge (tgt := 147) hx hb dX4_judges_118 (by decide) (fun c34 => absurd c34 (by decide)) (fun _ => ?_)
      refine lv_aload_n hx hb dX4_judges_121 rfl (lv_at hl 4 rfl) ?_
      refine va_get (D := D) (ci := 4) (v := .ref (q 1)) (C := RX4) (T := TX4) (N := 7) hx hb hts hin4 hown hK hP 0 rfl rfl 0 (by decide) (hts (.fieldLink RX4 7 "ProofMarksModel" "s" "[I") (List.mem_of_getElem? (i := 1) rfl)) (fun _ h9 => h9) rfl dX4_judges_122 ?_
      refine lv_iload hx hb dX4_judges_125 (lv_at hl 0 rfl) ?_
      refine lv_iconst (v := nI 3) hx hb dX4_judges_127 (by decide) ?_
      refine vp_callSi (W.runS (As := [.int (nI 2), .int (nI 3)]) (rest := [.ref (q 1)]) ⟨hx, hb, hml, hown, hts⟩ (k_X4_of3 l 2 3) (va_cwS 2 hts gX4_judges_X4_of3 rfl rfl rfl hd_X4_of3 ⟨Nat.le_of_ble_eq_true rfl, Nat.le_of_ble_eq_true rfl⟩) ⟨pm_no_blind, pm_no_pre⟩ rfl rfl hl.1 rfl (lv_room (Nat.le_of_ble_eq_true rfl)) dX4_judges_128 ⟨Nat.le_of_ble_eq_true rfl, Nat.le_of_ble_eq_true rfl⟩) (fun r35 h36 => ?_)
      obtain rfl : r35 = nI (150 + 4 * 2 + 3) := h36
      refine lv_dup2_11 hx hb dX4_judges_131 rfl rfl ?_
      refine kx_iald (v := nI (S 8 2)) hx hb hK hP 1 0 rfl rfl (by omega) (by decide) ((pm_ms_e (S := (pm_st (pm_st (pm_st (pm_st (pm_st (pm_st S 1 f 0) 0 f (pm_aft S f)) 2 f (pm_pc (pm_tk (S 4 f)))) 3 f (S 10 0 + 1)) 8 0 ((S 8 0) + (if pm_mk (S 4 f) 0 = 1 then 1 else 0))) 8 1 ((S 8 1) + (if pm_mk (S 4 f) 1 = 1 then 1 else 0)))) (e := 2) 3 (by decide) (by omega)).trans (congrArg nI (by simp [pm_st, updN]))) dX4_judges_132 ?_
      refine lv_iload_n hx hb dX4_judges_133 rfl (lv_at hl 2 rfl) ?_
      refine lv_iload hx hb dX4_judges_134 (lv_at hl 0 rfl) ?_
      refine lv_ishr hx hb dX4_judges_136 ?_
      refine lv_iconst (v := nI 1) hx hb dX4_judges_137 (by decide) ?_
      refine lv_iand hx hb dX4_judges_138 ?_
      refine lv_topi (fun x37 e38 => ?_)
      obtain rfl : x37 = nI (if pm_mk (S 4 f) 2 = 1 then 1 else 0) := e38.trans (pm_T9 (S 4 f) (pm_okb64 ho) 2 (by decide))
      refine kx_iadd hx hb dX4_judges_139 ?_
      refine kx_iast (ws' := pm_mo y q (pm_st (pm_st (pm_st (pm_st (pm_st (pm_st (pm_st S 1 f 0) 0 f (pm_aft S f)) 2 f (pm_pc (pm_tk (S 4 f)))) 3 f (S 10 0 + 1)) 8 0 ((S 8 0) + (if pm_mk (S 4 f) 0 = 1 then 1 else 0))) 8 1 ((S 8 1) + (if pm_mk (S 4 f) 1 = 1 then 1 else 0))) 8 2 ((S 8 2) + (if pm_mk (S 4 f) 2 = 1 then 1 else 0))) gp gs kn ln sv pd) hx hb hK hP hD hS 1 0 rfl rfl (by omega) (by decide) (pm_ms_we (e := 2) 3 (by decide) (by omega)) rfl dX4_judges_140 (fun H locs hP hD hS => ?_)
      refine lv_iinc (v := nI 3) (lv' := [(5, .int (nI 3)), (4, .int (nI 0)), (3, .int (nI (pm_tk (S 4 f)))), (2, .int (nI (pm_aft S f))), (0, .ref (q 0)), (1, .int (nI f))]) hx hb dX4_judges_141 hl (k := 0) rfl (by decide) (by decide) rfl (fun ls hl => ?_)
      refine lv_goto (tgt := 115) hx hb dX4_judges_144 (by decide) ?_
      refine lv_iload hx hb dX4_judges_115 (lv_at hl 0 rfl) ?_
      refine lv_iconst (v := nI 3) hx hb dX4_judges_117 (by decide) ?_
      refine lv_icmp_ge (tgt := 147) hx hb dX4_judges_118 (by decide) (fun _ => ?_) (fun c39 => (c39 (by decide)).elim)
      refine lv_aload_n hx hb dX4_judges_147 rfl (lv_at hl 4 rfl) ?_
      refine va_get (D := D) (ci := 4) (v := .ref (q 1)) (C := RX4) (T := TX4) (N := 7) hx hb hts hin4 hown hK hP 0 rfl rfl 0 (by decide) (hts (.fieldLink RX4 7 "ProofMarksModel" "s" "[I") (List.mem_of_getElem? (i := 1) rfl)) (fun _ h9 => h9) rfl dX4_judges_148 ?_
      refine lv_iload_n hx hb dX4_judges_151 rfl (lv_at hl 5 rfl) ?_
      refine lv_iconst (v := nI 4) hx hb dX4_judges_152 (by decide) ?_
      refine vp_callSi (W.runS (As := [.int (nI f), .int (nI 4)]) (rest := [.ref (q 1)]) ⟨hx, hb, hml, hown, hts⟩ (k_X4_at l f 4) (va_cwS 2 hts gX4_judges_X4_at rfl rfl rfl hd_X4_at ⟨Nat.le_of_ble_eq_true rfl, Nat.le_of_ble_eq_true rfl⟩) ⟨pm_no_blind, pm_no_pre⟩ rfl rfl hl.1 rfl (lv_room (Nat.le_of_ble_eq_true rfl)) dX4_judges_153 ⟨Nat.le_of_ble_eq_true rfl, Nat.le_of_ble_eq_true rfl⟩) (fun r40 h41 => ?_)
      obtain rfl : r40 = nI (5 * f + 4) := h41
      refine lv_iconst (v := nI 0) hx hb dX4_judges_156 (by decide) ?_
      refine kx_iast (ws' := pm_mo y q (pm_st (pm_st (pm_st (pm_st (pm_st (pm_st (pm_st (pm_st S 1 f 0) 0 f (pm_aft S f)) 2 f (pm_pc (pm_tk (S 4 f)))) 3 f (S 10 0 + 1)) 8 0 ((S 8 0) + (if pm_mk (S 4 f) 0 = 1 then 1 else 0))) 8 1 ((S 8 1) + (if pm_mk (S 4 f) 1 = 1 then 1 else 0))) 8 2 ((S 8 2) + (if pm_mk (S 4 f) 2 = 1 then 1 else 0))) 4 f 0) gp gs kn ln sv pd) hx hb hK hP hD hS 1 0 rfl rfl (by omega) (by decide) (pm_ms_wf (f := f) 4 (by decide) (by decide) (by omega)) rfl dX4_judges_157 (fun H locs hP hD hS => ?_)
      have E : (pm_st (pm_st (pm_st (pm_st (pm_st (pm_st (pm_st (pm_st S 1 f 0) 0 f (pm_aft S f)) 2 f (pm_pc (pm_tk (S 4 f)))) 3 f (S 10 0 + 1)) 8 0 ((S 8 0) + (if pm_mk (S 4 f) 0 = 1 then 1 else 0))) 8 1 ((S 8 1) + (if pm_mk (S 4 f) 1 = 1 then 1 else 0))) 8 2 ((S 8 2) + (if pm_mk (S 4 f) 2 = 1 then 1 else 0))) 4 f 0) = pm_jdg S f := pm_jd_1 (by assumption) (by first | exact (pm_dl_1 (by assumption)).symm | exact (pm_dl_0 (by assumption)).symm)
      exact W.vret hx hb hr (fun t ht _ => ⟨⟨(), rfl, trivial, (by show va_P D vwCl (pm_mo y q (pm_jdg S f) gp gs kn ln sv pd) t.heap; rw [ht]; exact (by rw [← E]; exact hP))⟩, hS.F ht⟩) hS.2.2 dX4_judges_158
  · skip
    refine lv_iconst (v := nI 1) hx hb dX4_judges_26 (by decide) ?_
    refine lv_goto (tgt := 31) hx hb dX4_judges_27 (by decide) ?_
    refine lv_istore (lv' := [(4, .int (nI 1)), (3, .int (nI (pm_tk (S 4 f)))), (2, .int (nI (pm_aft S f))), (0, .ref (q 0)), (1, .int (nI f))]) hx hb dX4_judges_31 hl (by decide) rfl (fun ls hl => ?_)
    refine lv_aload_n hx hb dX4_judges_33 rfl (lv_at hl 3 rfl) ?_
    refine va_get (D := D) (ci := 4) (v := .ref (q 1)) (C := RX4) (T := TX4) (N := 7) hx hb hts hin4 hown hK hP 0 rfl rfl 0 (by decide) (hts (.fieldLink RX4 7 "ProofMarksModel" "s" "[I") (List.mem_of_getElem? (i := 1) rfl)) (fun _ h9 => h9) rfl dX4_judges_34 ?_
    refine lv_iload_n hx hb dX4_judges_37 rfl (lv_at hl 4 rfl) ?_
    refine lv_iconst (v := nI 1) hx hb dX4_judges_38 (by decide) ?_
    refine vp_callSi (W.runS (As := [.int (nI f), .int (nI 1)]) (rest := [.ref (q 1)]) ⟨hx, hb, hml, hown, hts⟩ (k_X4_at l f 1) (va_cwS 2 hts gX4_judges_X4_at rfl rfl rfl hd_X4_at ⟨Nat.le_of_ble_eq_true rfl, Nat.le_of_ble_eq_true rfl⟩) ⟨pm_no_blind, pm_no_pre⟩ rfl rfl hl.1 rfl (lv_room (Nat.le_of_ble_eq_true rfl)) dX4_judges_39 ⟨Nat.le_of_ble_eq_true rfl, Nat.le_of_ble_eq_true rfl⟩) (fun r42 h43 => ?_)
    obtain rfl : r42 = nI (5 * f + 1) := h43
    refine lv_iload hx hb dX4_judges_42 (lv_at hl 0 rfl) ?_
    refine lv_if_eq (tgt := 62) hx hb dX4_judges_44 (by decide) (fun c44 => absurd c44 (by decide)) (fun _ => ?_)
    refine lv_aload_n hx hb dX4_judges_47 rfl (lv_at hl 3 rfl) ?_
    refine va_get (D := D) (ci := 4) (v := .ref (q 1)) (C := RX4) (T := TX4) (N := 7) hx hb hts hin4 hown hK hP 0 rfl rfl 0 (by decide) (hts (.fieldLink RX4 7 "ProofMarksModel" "s" "[I") (List.mem_of_getElem? (i := 1) rfl)) (fun _ h9 => h9) rfl dX4_judges_48 ?_
    refine lv_iload_n hx hb dX4_judges_51 rfl (lv_at hl 4 rfl) ?_
    refine lv_iconst (v := nI 1) hx hb dX4_judges_52 (by decide) ?_
    refine vp_callSi (W.runS (As := [.int (nI f), .int (nI 1)]) (rest := [.ref (q 1), .int (nI (5 * f + 1)), .ref (q 1)]) ⟨hx, hb, hml, hown, hts⟩ (k_X4_at l f 1) (va_cwS 2 hts gX4_judges_X4_at rfl rfl rfl hd_X4_at ⟨Nat.le_of_ble_eq_true rfl, Nat.le_of_ble_eq_true rfl⟩) ⟨pm_no_blind, pm_no_pre⟩ rfl rfl hl.1 rfl (lv_room (Nat.le_of_ble_eq_true rfl)) dX4_judges_53 ⟨Nat.le_of_ble_eq_true rfl, Nat.le_of_ble_eq_true rfl⟩) (fun r45 h46 => ?_)
    obtain rfl : r45 = nI (5 * f + 1) := h46
    refine kx_iald (v := nI (S 1 f)) hx hb hK hP 1 0 rfl rfl (by omega) (by decide) (pm_ms_f (S := S) (f := f) 1 (by decide) (by decide) (by omega)) dX4_judges_56 ?_
    refine lv_iconst (v := nI 1) hx hb dX4_judges_57 (by decide) ?_
    refine kx_iadd hx hb dX4_judges_58 ?_
    refine lv_goto (tgt := 63) hx hb dX4_judges_59 (by decide) ?_
    refine kx_iast (ws' := pm_mo y q (pm_st S 1 f ((S 1 f) + 1)) gp gs kn ln sv pd) hx hb hK hP hD hS 1 0 rfl rfl (by omega) (by decide) (pm_ms_wf (f := f) 1 (by decide) (by decide) (by omega)) rfl dX4_judges_63 (fun H locs hP hD hS => ?_)
    refine lv_aload_n hx hb dX4_judges_64 rfl (lv_at hl 3 rfl) ?_
    refine va_get (D := D) (ci := 4) (v := .ref (q 1)) (C := RX4) (T := TX4) (N := 7) hx hb hts hin4 hown hK hP 0 rfl rfl 0 (by decide) (hts (.fieldLink RX4 7 "ProofMarksModel" "s" "[I") (List.mem_of_getElem? (i := 1) rfl)) (fun _ h9 => h9) rfl dX4_judges_65 ?_
    refine lv_iload_n hx hb dX4_judges_68 rfl (lv_at hl 4 rfl) ?_
    refine lv_iconst (v := nI 0) hx hb dX4_judges_69 (by decide) ?_
    refine vp_callSi (W.runS (As := [.int (nI f), .int (nI 0)]) (rest := [.ref (q 1)]) ⟨hx, hb, hml, hown, hts⟩ (k_X4_at l f 0) (va_cwS 2 hts gX4_judges_X4_at rfl rfl rfl hd_X4_at ⟨Nat.le_of_ble_eq_true rfl, Nat.le_of_ble_eq_true rfl⟩) ⟨pm_no_blind, pm_no_pre⟩ rfl rfl hl.1 rfl (lv_room (Nat.le_of_ble_eq_true rfl)) dX4_judges_70 ⟨Nat.le_of_ble_eq_true rfl, Nat.le_of_ble_eq_true rfl⟩) (fun r47 h48 => ?_)
    obtain rfl : r47 = nI (5 * f + 0) := h48
    refine lv_iload_n hx hb dX4_judges_73 rfl (lv_at hl 2 rfl) ?_
    refine kx_iast (ws' := pm_mo y q (pm_st (pm_st S 1 f ((S 1 f) + 1)) 0 f (pm_aft S f)) gp gs kn ln sv pd) hx hb hK hP hD hS 1 0 rfl rfl (by omega) (by decide) (pm_ms_wf (f := f) 0 (by decide) (by decide) (by omega)) rfl dX4_judges_74 (fun H locs hP hD hS => ?_)
    refine lv_iload_n hx hb dX4_judges_75 rfl (lv_at hl 2 rfl) ?_
    refine lv_iconst (v := nI 1) hx hb dX4_judges_76 (by decide) ?_
    refine kx_icmp_ne (tgt := 147) hx hb (by omega) (by decide) dX4_judges_77 (by decide) (fun c49 => ?_) (fun c49 => ?_)
    · skip
      refine lv_aload_n hx hb dX4_judges_147 rfl (lv_at hl 3 rfl) ?_
      refine va_get (D := D) (ci := 4) (v := .ref (q 1)) (C := RX4) (T := TX4) (N := 7) hx hb hts hin4 hown hK hP 0 rfl rfl 0 (by decide) (hts (.fieldLink RX4 7 "ProofMarksModel" "s" "[I") (List.mem_of_getElem? (i := 1) rfl)) (fun _ h9 => h9) rfl dX4_judges_148 ?_
      refine lv_iload_n hx hb dX4_judges_151 rfl (lv_at hl 4 rfl) ?_
      refine lv_iconst (v := nI 4) hx hb dX4_judges_152 (by decide) ?_
      refine vp_callSi (W.runS (As := [.int (nI f), .int (nI 4)]) (rest := [.ref (q 1)]) ⟨hx, hb, hml, hown, hts⟩ (k_X4_at l f 4) (va_cwS 2 hts gX4_judges_X4_at rfl rfl rfl hd_X4_at ⟨Nat.le_of_ble_eq_true rfl, Nat.le_of_ble_eq_true rfl⟩) ⟨pm_no_blind, pm_no_pre⟩ rfl rfl hl.1 rfl (lv_room (Nat.le_of_ble_eq_true rfl)) dX4_judges_153 ⟨Nat.le_of_ble_eq_true rfl, Nat.le_of_ble_eq_true rfl⟩) (fun r50 h51 => ?_)
      obtain rfl : r50 = nI (5 * f + 4) := h51
      refine lv_iconst (v := nI 0) hx hb dX4_judges_156 (by decide) ?_
      refine kx_iast (ws' := pm_mo y q (pm_st (pm_st (pm_st S 1 f ((S 1 f) + 1)) 0 f (pm_aft S f)) 4 f 0) gp gs kn ln sv pd) hx hb hK hP hD hS 1 0 rfl rfl (by omega) (by decide) (pm_ms_wf (f := f) 4 (by decide) (by decide) (by omega)) rfl dX4_judges_157 (fun H locs hP hD hS => ?_)
      have E : (pm_st (pm_st (pm_st S 1 f ((S 1 f) + 1)) 0 f (pm_aft S f)) 4 f 0) = pm_jdg S f := pm_jd_2 (by assumption) (by first | exact (pm_dl_1 (by assumption)).symm | exact (pm_dl_0 (by assumption)).symm)
      exact W.vret hx hb hr (fun t ht _ => ⟨⟨(), rfl, trivial, (by show va_P D vwCl (pm_mo y q (pm_jdg S f) gp gs kn ln sv pd) t.heap; rw [ht]; exact (by rw [← E]; exact hP))⟩, hS.F ht⟩) hS.2.2 dX4_judges_158
    · skip
      refine lv_aload_n hx hb dX4_judges_80 rfl (lv_at hl 3 rfl) ?_
      refine va_get (D := D) (ci := 4) (v := .ref (q 1)) (C := RX4) (T := TX4) (N := 7) hx hb hts hin4 hown hK hP 0 rfl rfl 0 (by decide) (hts (.fieldLink RX4 7 "ProofMarksModel" "s" "[I") (List.mem_of_getElem? (i := 1) rfl)) (fun _ h9 => h9) rfl dX4_judges_81 ?_
      refine lv_iload_n hx hb dX4_judges_84 rfl (lv_at hl 4 rfl) ?_
      refine lv_iconst (v := nI 2) hx hb dX4_judges_85 (by decide) ?_
      refine vp_callSi (W.runS (As := [.int (nI f), .int (nI 2)]) (rest := [.ref (q 1)]) ⟨hx, hb, hml, hown, hts⟩ (k_X4_at l f 2) (va_cwS 2 hts gX4_judges_X4_at rfl rfl rfl hd_X4_at ⟨Nat.le_of_ble_eq_true rfl, Nat.le_of_ble_eq_true rfl⟩) ⟨pm_no_blind, pm_no_pre⟩ rfl rfl hl.1 rfl (lv_room (Nat.le_of_ble_eq_true rfl)) dX4_judges_86 ⟨Nat.le_of_ble_eq_true rfl, Nat.le_of_ble_eq_true rfl⟩) (fun r52 h53 => ?_)
      obtain rfl : r52 = nI (5 * f + 2) := h53
      refine lv_iload_n hx hb dX4_judges_89 rfl (lv_at hl 1 rfl) ?_
      refine vp_callSi (W.runS (As := [.int (nI (pm_tk (S 4 f)))]) (rest := [.int (nI (5 * f + 2)), .ref (q 1)]) ⟨hx, hb, hml, hown, hts⟩ (k_X4_ones l (pm_tk (S 4 f)) (by omega)) (va_cwS 1 hts gX4_judges_X4_ones rfl rfl rfl hd_X4_ones ⟨Nat.le_of_ble_eq_true rfl, Nat.le_of_ble_eq_true rfl⟩) ⟨pm_no_blind, pm_no_pre⟩ rfl rfl hl.1 rfl (lv_room (Nat.le_of_ble_eq_true rfl)) dX4_judges_90 ⟨Nat.le_of_ble_eq_true rfl, Nat.le_of_ble_eq_true rfl⟩) (fun r54 h55 => ?_)
      obtain rfl : r54 = nI (pm_pc (pm_tk (S 4 f))) := h55
      have := pm_pc4 (pm_tk (S 4 f))
      refine kx_iast (ws' := pm_mo y q (pm_st (pm_st (pm_st S 1 f ((S 1 f) + 1)) 0 f (pm_aft S f)) 2 f (pm_pc (pm_tk (S 4 f)))) gp gs kn ln sv pd) hx hb hK hP hD hS 1 0 rfl rfl (by omega) (by decide) (pm_ms_wf (f := f) 2 (by decide) (by decide) (by omega)) rfl dX4_judges_93 (fun H locs hP hD hS => ?_)
      refine lv_aload_n hx hb dX4_judges_94 rfl (lv_at hl 3 rfl) ?_
      refine va_get (D := D) (ci := 4) (v := .ref (q 1)) (C := RX4) (T := TX4) (N := 7) hx hb hts hin4 hown hK hP 0 rfl rfl 0 (by decide) (hts (.fieldLink RX4 7 "ProofMarksModel" "s" "[I") (List.mem_of_getElem? (i := 1) rfl)) (fun _ h9 => h9) rfl dX4_judges_95 ?_
      refine lv_iload_n hx hb dX4_judges_98 rfl (lv_at hl 4 rfl) ?_
      refine lv_iconst (v := nI 3) hx hb dX4_judges_99 (by decide) ?_
      refine vp_callSi (W.runS (As := [.int (nI f), .int (nI 3)]) (rest := [.ref (q 1)]) ⟨hx, hb, hml, hown, hts⟩ (k_X4_at l f 3) (va_cwS 2 hts gX4_judges_X4_at rfl rfl rfl hd_X4_at ⟨Nat.le_of_ble_eq_true rfl, Nat.le_of_ble_eq_true rfl⟩) ⟨pm_no_blind, pm_no_pre⟩ rfl rfl hl.1 rfl (lv_room (Nat.le_of_ble_eq_true rfl)) dX4_judges_100 ⟨Nat.le_of_ble_eq_true rfl, Nat.le_of_ble_eq_true rfl⟩) (fun r56 h57 => ?_)
      obtain rfl : r56 = nI (5 * f + 3) := h57
      refine lv_aload_n hx hb dX4_judges_103 rfl (lv_at hl 3 rfl) ?_
      refine va_get (D := D) (ci := 4) (v := .ref (q 1)) (C := RX4) (T := TX4) (N := 7) hx hb hts hin4 hown hK hP 0 rfl rfl 0 (by decide) (hts (.fieldLink RX4 7 "ProofMarksModel" "s" "[I") (List.mem_of_getElem? (i := 1) rfl)) (fun _ h9 => h9) rfl dX4_judges_104 ?_
      refine lv_sipush (v := nI 166) hx hb dX4_judges_107 (by decide) ?_
      refine kx_iald (v := nI (S 10 0)) hx hb hK hP 1 0 rfl rfl (by omega) (by decide) ((pm_ms_r (S := (pm_st (pm_st (pm_st S 1 f ((S 1 f) + 1)) 0 f (pm_aft S f)) 2 f (pm_pc (pm_tk (S 4 f))))) (k := 0) (by decide)).trans (congrArg nI (by simp [pm_st, updN]))) dX4_judges_110 ?_
      refine lv_topi (fun x58 e59 => ?_)
      obtain rfl : x58 = pm_rm (S 10 0 + 1) := e59.trans ((nI_pred (S 10 0)).symm)
      refine kx_iast (ws' := pm_mo y q (pm_st (pm_st (pm_st (pm_st S 1 f ((S 1 f) + 1)) 0 f (pm_aft S f)) 2 f (pm_pc (pm_tk (S 4 f)))) 3 f (S 10 0 + 1)) gp gs kn ln sv pd) hx hb hK hP hD hS 1 0 rfl rfl (by omega) (by decide) (pm_ms_w3 (f := f) (by omega)) rfl dX4_judges_111 (fun H locs hP hD hS => ?_)
      refine lv_iconst (v := nI 0) hx hb dX4_judges_112 (by decide) ?_
      refine lv_istore (lv' := [(5, .int (nI 0)), (4, .int (nI 1)), (3, .int (nI (pm_tk (S 4 f)))), (2, .int (nI (pm_aft S f))), (0, .ref (q 0)), (1, .int (nI f))]) hx hb dX4_judges_113 hl (by decide) rfl (fun ls hl => ?_)
      refine lv_iload hx hb dX4_judges_115 (lv_at hl 0 rfl) ?_
      refine lv_iconst (v := nI 3) hx hb dX4_judges_117 (by decide) ?_
      refine lv_icmp_ge (tgt := 147) hx hb dX4_judges_118 (by decide) (fun c60 => absurd c60 (by decide)) (fun _ => ?_)
      refine lv_aload_n hx hb dX4_judges_121 rfl (lv_at hl 4 rfl) ?_
      refine va_get (D := D) (ci := 4) (v := .ref (q 1)) (C := RX4) (T := TX4) (N := 7) hx hb hts hin4 hown hK hP 0 rfl rfl 0 (by decide) (hts (.fieldLink RX4 7 "ProofMarksModel" "s" "[I") (List.mem_of_getElem? (i := 1) rfl)) (fun _ h9 => h9) rfl dX4_judges_122 ?_
      refine lv_iload hx hb dX4_judges_125 (lv_at hl 0 rfl) ?_
      refine lv_iconst (v := nI 3) hx hb dX4_judges_127 (by decide) ?_
      refine vp_callSi (W.runS (As := [.int (nI 0), .int (nI 3)]) (rest := [.ref (q 1)]) ⟨hx, hb, hml, hown, hts⟩ (k_X4_of3 l 0 3) (va_cwS 2 hts gX4_judges_X4_of3 rfl rfl rfl hd_X4_of3 ⟨Nat.le_of_ble_eq_true rfl, Nat.le_of_ble_eq_true rfl⟩) ⟨pm_no_blind, pm_no_pre⟩ rfl rfl hl.1 rfl (lv_room (Nat.le_of_ble_eq_true rfl)) dX4_judges_128 ⟨Nat.le_of_ble_eq_true rfl, Nat.le_of_ble_eq_true rfl⟩) (fun r61 h62 => ?_)
      obtain rfl : r61 = nI (150 + 4 * 0 + 3) := h62
      refine lv_dup2_11 hx hb dX4_judges_131 rfl rfl ?_
      refine kx_iald (v := nI (S 8 0)) hx hb hK hP 1 0 rfl rfl (by omega) (by decide) ((pm_ms_e (S := (pm_st (pm_st (pm_st (pm_st S 1 f ((S 1 f) + 1)) 0 f (pm_aft S f)) 2 f (pm_pc (pm_tk (S 4 f)))) 3 f (S 10 0 + 1))) (e := 0) 3 (by decide) (by omega)).trans (congrArg nI (by simp [pm_st, updN]))) dX4_judges_132 ?_
      refine lv_iload_n hx hb dX4_judges_133 rfl (lv_at hl 2 rfl) ?_
      refine lv_iload hx hb dX4_judges_134 (lv_at hl 0 rfl) ?_
      refine lv_ishr hx hb dX4_judges_136 ?_
      refine lv_iconst (v := nI 1) hx hb dX4_judges_137 (by decide) ?_
      refine lv_iand hx hb dX4_judges_138 ?_
      refine lv_topi (fun x63 e64 => ?_)
      obtain rfl : x63 = nI (if pm_mk (S 4 f) 0 = 1 then 1 else 0) := e64.trans (pm_T9 (S 4 f) (pm_okb64 ho) 0 (by decide))
      refine kx_iadd hx hb dX4_judges_139 ?_
      refine kx_iast (ws' := pm_mo y q (pm_st (pm_st (pm_st (pm_st (pm_st S 1 f ((S 1 f) + 1)) 0 f (pm_aft S f)) 2 f (pm_pc (pm_tk (S 4 f)))) 3 f (S 10 0 + 1)) 8 0 ((S 8 0) + (if pm_mk (S 4 f) 0 = 1 then 1 else 0))) gp gs kn ln sv pd) hx hb hK hP hD hS 1 0 rfl rfl (by omega) (by decide) (pm_ms_we (e := 0) 3 (by decide) (by omega)) rfl dX4_judges_140 (fun H locs hP hD hS => ?_)
      refine lv_iinc (v := nI 1) (lv' := [(5, .int (nI 1)), (4, .int (nI 1)), (3, .int (nI (pm_tk (S 4 f)))), (2, .int (nI (pm_aft S f))), (0, .ref (q 0)), (1, .int (nI f))]) hx hb dX4_judges_141 hl (k := 0) rfl (by decide) (by decide) rfl (fun ls hl => ?_)
      refine lv_goto (tgt := 115) hx hb dX4_judges_144 (by decide) ?_
      refine lv_iload hx hb dX4_judges_115 (lv_at hl 0 rfl) ?_
      refine lv_iconst (v := nI 3) hx hb dX4_judges_117 (by decide) ?_
      refine lv_icmp_ge (tgt := 147) hx hb dX4_judges_118 (by decide) (fun c65 => absurd c65 (by decide)) (fun _ => ?_)
      refine lv_aload_n hx hb dX4_judges_121 rfl (lv_at hl 4 rfl) ?_
      refine va_get (D := D) (ci := 4) (v := .ref (q 1)) (C := RX4) (T := TX4) (N := 7) hx hb hts hin4 hown hK hP 0 rfl rfl 0 (by decide) (hts (.fieldLink RX4 7 "ProofMarksModel" "s" "[I") (List.mem_of_getElem? (i := 1) rfl)) (fun _ h9 => h9) rfl dX4_judges_122 ?_
      refine lv_iload hx hb dX4_judges_125 (lv_at hl 0 rfl) ?_
      refine lv_iconst (v := nI 3) hx hb dX4_judges_127 (by decide) ?_
      refine vp_callSi (W.runS (As := [.int (nI 1), .int (nI 3)]) (rest := [.ref (q 1)]) ⟨hx, hb, hml, hown, hts⟩ (k_X4_of3 l 1 3) (va_cwS 2 hts gX4_judges_X4_of3 rfl rfl rfl hd_X4_of3 ⟨Nat.le_of_ble_eq_true rfl, Nat.le_of_ble_eq_true rfl⟩) ⟨pm_no_blind, pm_no_pre⟩ rfl rfl hl.1 rfl (lv_room (Nat.le_of_ble_eq_true rfl)) dX4_judges_128 ⟨Nat.le_of_ble_eq_true rfl, Nat.le_of_ble_eq_true rfl⟩) (fun r66 h67 => ?_)
      obtain rfl : r66 = nI (150 + 4 * 1 + 3) := h67
      refine lv_dup2_11 hx hb dX4_judges_131 rfl rfl ?_
      refine kx_iald (v := nI (S 8 1)) hx hb hK hP 1 0 rfl rfl (by omega) (by decide) ((pm_ms_e (S := (pm_st (pm_st (pm_st (pm_st (pm_st S 1 f ((S 1 f) + 1)) 0 f (pm_aft S f)) 2 f (pm_pc (pm_tk (S 4 f)))) 3 f (S 10 0 + 1)) 8 0 ((S 8 0) + (if pm_mk (S 4 f) 0 = 1 then 1 else 0)))) (e := 1) 3 (by decide) (by omega)).trans (congrArg nI (by simp [pm_st, updN]))) dX4_judges_132 ?_
      refine lv_iload_n hx hb dX4_judges_133 rfl (lv_at hl 2 rfl) ?_
      refine lv_iload hx hb dX4_judges_134 (lv_at hl 0 rfl) ?_
      refine lv_ishr hx hb dX4_judges_136 ?_
      refine lv_iconst (v := nI 1) hx hb dX4_judges_137 (by decide) ?_
      refine lv_iand hx hb dX4_judges_138 ?_
      refine lv_topi (fun x68 e69 => ?_)
      obtain rfl : x68 = nI (if pm_mk (S 4 f) 1 = 1 then 1 else 0) := e69.trans (pm_T9 (S 4 f) (pm_okb64 ho) 1 (by decide))
      refine kx_iadd hx hb dX4_judges_139 ?_
      refine kx_iast (ws' := pm_mo y q (pm_st (pm_st (pm_st (pm_st (pm_st (pm_st S 1 f ((S 1 f) + 1)) 0 f (pm_aft S f)) 2 f (pm_pc (pm_tk (S 4 f)))) 3 f (S 10 0 + 1)) 8 0 ((S 8 0) + (if pm_mk (S 4 f) 0 = 1 then 1 else 0))) 8 1 ((S 8 1) + (if pm_mk (S 4 f) 1 = 1 then 1 else 0))) gp gs kn ln sv pd) hx hb hK hP hD hS 1 0 rfl rfl (by omega) (by decide) (pm_ms_we (e := 1) 3 (by decide) (by omega)) rfl dX4_judges_140 (fun H locs hP hD hS => ?_)
      refine lv_iinc (v := nI 2) (lv' := [(5, .int (nI 2)), (4, .int (nI 1)), (3, .int (nI (pm_tk (S 4 f)))), (2, .int (nI (pm_aft S f))), (0, .ref (q 0)), (1, .int (nI f))]) hx hb dX4_judges_141 hl (k := 0) rfl (by decide) (by decide) rfl (fun ls hl => ?_)
      refine lv_goto (tgt := 115) hx hb dX4_judges_144 (by decide) ?_
      refine lv_iload hx hb dX4_judges_115 (lv_at hl 0 rfl) ?_
      refine lv_iconst (v := nI 3) hx hb dX4_judges_117 (by decide) ?_
      refine lv_icmp_ge (tgt := 147) hx hb dX4_judges_118 (by decide) (fun c70 => absurd c70 (by decide)) (fun _ => ?_)
      refine lv_aload_n hx hb dX4_judges_121 rfl (lv_at hl 4 rfl) ?_
      refine va_get (D := D) (ci := 4) (v := .ref (q 1)) (C := RX4) (T := TX4) (N := 7) hx hb hts hin4 hown hK hP 0 rfl rfl 0 (by decide) (hts (.fieldLink RX4 7 "ProofMarksModel" "s" "[I") (List.mem_of_getElem? (i := 1) rfl)) (fun _ h9 => h9) rfl dX4_judges_122 ?_
      refine lv_iload hx hb dX4_judges_125 (lv_at hl 0 rfl) ?_
      refine lv_iconst (v := nI 3) hx hb dX4_judges_127 (by decide) ?_
      refine vp_callSi (W.runS (As := [.int (nI 2), .int (nI 3)]) (rest := [.ref (q 1)]) ⟨hx, hb, hml, hown, hts⟩ (k_X4_of3 l 2 3) (va_cwS 2 hts gX4_judges_X4_of3 rfl rfl rfl hd_X4_of3 ⟨Nat.le_of_ble_eq_true rfl, Nat.le_of_ble_eq_true rfl⟩) ⟨pm_no_blind, pm_no_pre⟩ rfl rfl hl.1 rfl (lv_room (Nat.le_of_ble_eq_true rfl)) dX4_judges_128 ⟨Nat.le_of_ble_eq_true rfl, Nat.le_of_ble_eq_true rfl⟩) (fun r71 h72 => ?_)
      obtain rfl : r71 = nI (150 + 4 * 2 + 3) := h72
      refine lv_dup2_11 hx hb dX4_judges_131 rfl rfl ?_
      refine kx_iald (v := nI (S 8 2)) hx hb hK hP 1 0 rfl rfl (by omega) (by decide) ((pm_ms_e (S := (pm_st (pm_st (pm_st (pm_st (pm_st (pm_st S 1 f ((S 1 f) + 1)) 0 f (pm_aft S f)) 2 f (pm_pc (pm_tk (S 4 f)))) 3 f (S 10 0 + 1)) 8 0 ((S 8 0) + (if pm_mk (S 4 f) 0 = 1 then 1 else 0))) 8 1 ((S 8 1) + (if pm_mk (S 4 f) 1 = 1 then 1 else 0)))) (e := 2) 3 (by decide) (by omega)).trans (congrArg nI (by simp [pm_st, updN]))) dX4_judges_132 ?_
      refine lv_iload_n hx hb dX4_judges_133 rfl (lv_at hl 2 rfl) ?_
      refine lv_iload hx hb dX4_judges_134 (lv_at hl 0 rfl) ?_
      refine lv_ishr hx hb dX4_judges_136 ?_
      refine lv_iconst (v := nI 1) hx hb dX4_judges_137 (by decide) ?_
      refine lv_iand hx hb dX4_judges_138 ?_
      refine lv_topi (fun x73 e74 => ?_)
      obtain rfl : x73 = nI (if pm_mk (S 4 f) 2 = 1 then 1 else 0) := e74.trans (pm_T9 (S 4 f) (pm_okb64 ho) 2 (by decide))
      refine kx_iadd hx hb dX4_judges_139 ?_
      refine kx_iast (ws' := pm_mo y q (pm_st (pm_st (pm_st (pm_st (pm_st (pm_st (pm_st S 1 f ((S 1 f) + 1)) 0 f (pm_aft S f)) 2 f (pm_pc (pm_tk (S 4 f)))) 3 f (S 10 0 + 1)) 8 0 ((S 8 0) + (if pm_mk (S 4 f) 0 = 1 then 1 else 0))) 8 1 ((S 8 1) + (if pm_mk (S 4 f) 1 = 1 then 1 else 0))) 8 2 ((S 8 2) + (if pm_mk (S 4 f) 2 = 1 then 1 else 0))) gp gs kn ln sv pd) hx hb hK hP hD hS 1 0 rfl rfl (by omega) (by decide) (pm_ms_we (e := 2) 3 (by decide) (by omega)) rfl dX4_judges_140 (fun H locs hP hD hS => ?_)
      refine lv_iinc (v := nI 3) (lv' := [(5, .int (nI 3)), (4, .int (nI 1)), (3, .int (nI (pm_tk (S 4 f)))), (2, .int (nI (pm_aft S f))), (0, .ref (q 0)), (1, .int (nI f))]) hx hb dX4_judges_141 hl (k := 0) rfl (by decide) (by decide) rfl (fun ls hl => ?_)
      refine lv_goto (tgt := 115) hx hb dX4_judges_144 (by decide) ?_
      refine lv_iload hx hb dX4_judges_115 (lv_at hl 0 rfl) ?_
      refine lv_iconst (v := nI 3) hx hb dX4_judges_117 (by decide) ?_
      refine lv_icmp_ge (tgt := 147) hx hb dX4_judges_118 (by decide) (fun _ => ?_) (fun c75 => (c75 (by decide)).elim)
      refine lv_aload_n hx hb dX4_judges_147 rfl (lv_at hl 4 rfl) ?_
      refine va_get (D := D) (ci := 4) (v := .ref (q 1)) (C := RX4) (T := TX4) (N := 7) hx hb hts hin4 hown hK hP 0 rfl rfl 0 (by decide) (hts (.fieldLink RX4 7 "ProofMarksModel" "s" "[I") (List.mem_of_getElem? (i := 1) rfl)) (fun _ h9 => h9) rfl dX4_judges_148 ?_
      refine lv_iload_n hx hb dX4_judges_151 rfl (lv_at hl 5 rfl) ?_
      refine lv_iconst (v := nI 4) hx hb dX4_judges_152 (by decide) ?_
      refine vp_callSi (W.runS (As := [.int (nI f), .int (nI 4)]) (rest := [.ref (q 1)]) ⟨hx, hb, hml, hown, hts⟩ (k_X4_at l f 4) (va_cwS 2 hts gX4_judges_X4_at rfl rfl rfl hd_X4_at ⟨Nat.le_of_ble_eq_true rfl, Nat.le_of_ble_eq_true rfl⟩) ⟨pm_no_blind, pm_no_pre⟩ rfl rfl hl.1 rfl (lv_room (Nat.le_of_ble_eq_true rfl)) dX4_judges_153 ⟨Nat.le_of_ble_eq_true rfl, Nat.le_of_ble_eq_true rfl⟩) (fun r76 h77 => ?_)
      obtain rfl : r76 = nI (5 * f + 4) := h77
      refine lv_iconst (v := nI 0) hx hb dX4_judges_156 (by decide) ?_
      refine kx_iast (ws' := pm_mo y q (pm_st (pm_st (pm_st (pm_st (pm_st (pm_st (pm_st (pm_st S 1 f ((S 1 f) + 1)) 0 f (pm_aft S f)) 2 f (pm_pc (pm_tk (S 4 f)))) 3 f (S 10 0 + 1)) 8 0 ((S 8 0) + (if pm_mk (S 4 f) 0 = 1 then 1 else 0))) 8 1 ((S 8 1) + (if pm_mk (S 4 f) 1 = 1 then 1 else 0))) 8 2 ((S 8 2) + (if pm_mk (S 4 f) 2 = 1 then 1 else 0))) 4 f 0) gp gs kn ln sv pd) hx hb hK hP hD hS 1 0 rfl rfl (by omega) (by decide) (pm_ms_wf (f := f) 4 (by decide) (by decide) (by omega)) rfl dX4_judges_157 (fun H locs hP hD hS => ?_)
      have E : (pm_st (pm_st (pm_st (pm_st (pm_st (pm_st (pm_st (pm_st S 1 f ((S 1 f) + 1)) 0 f (pm_aft S f)) 2 f (pm_pc (pm_tk (S 4 f)))) 3 f (S 10 0 + 1)) 8 0 ((S 8 0) + (if pm_mk (S 4 f) 0 = 1 then 1 else 0))) 8 1 ((S 8 1) + (if pm_mk (S 4 f) 1 = 1 then 1 else 0))) 8 2 ((S 8 2) + (if pm_mk (S 4 f) 2 = 1 then 1 else 0))) 4 f 0) = pm_jdg S f := pm_jd_1 (by assumption) (by first | exact (pm_dl_1 (by assumption)).symm | exact (pm_dl_0 (by assumption)).symm)
      exact W.vret hx hb hr (fun t ht _ => ⟨⟨(), rfl, trivial, (by show va_P D vwCl (pm_mo y q (pm_jdg S f) gp gs kn ln sv pd) t.heap; rw [ht]; exact (by rw [← E]; exact hP))⟩, hS.F ht⟩) hS.2.2 dX4_judges_158

set_option maxHeartbeats 4000000 in
set_option maxRecDepth 100000 in
theorem k_X4_rounds (l : Launch) (D : va_G) (y : Nat → ClassId) (q : Nat → Nat) (S : Nat → Nat → Nat) (gp gs : Nat → Int32) (kn ln : Nat) (sv pd : Nat → Nat) (hI : pm_Inv S) : Met l yX4_rounds wsX4_rounds ({ frames := 5, cells := 0, slots := 0, locals := 116 } : Room) (pm_wr D (pm_ty y) [.ref (q 0)] (pm_mo y q S gp gs kn ln sv pd)) (pm_Qi D (fun (r : Int32) (_ : Unit) => r = nI (pm_rct S 30)) (fun (_ : Unit) => pm_mo y q (pm_st (pm_mid2 S 3) 10 0 (S 10 0 + 1)) gp gs kn ln sv pd) (pm_mo y q S gp gs kn ln sv pd)) 0 0 (pm_ad (pm_mo y q S gp gs kn ln sv pd)) := by
  refine Met.ofW (cc := cX4_rounds) (maxL := 4) (ret := (some .int)) (by decide) rfl ?_
  intro p e s m args below meth c s₁ B hml hpre
  obtain ⟨rfl, hP, hK, hD0⟩ := hpre
  have hx := B.exec
  have hb := B.bytes
  have hr := B.returns
  have hts := atoms_spec (ws := wsX4_rounds) B.pre
  have hown : s.vm.findClass RX4 = some m.cls := findClass_of_methodNamed B.named
  have hlocks := B.notSynchronized
  have hin4 : ∀ w ∈ u_ws RX4 TX4 7, w ∈ wsX4_rounds := fun w h => List.mem_cons_of_mem _ (List.mem_append_right _ h)
  have hD := pm_ad_self hD0
  have hS : va_S (pm_ad (pm_mo y q S gp gs kn ln sv pd)) s.heap s.heap [] := va_S.rf
  have hP : va_P D vwCl (pm_mo y q S gp gs kn ln sv pd) s.heap := hP
  have hl := lv_entry ([.ref (q 0)]) (n := 4) (Nat.le_of_ble_eq_true rfl)
  rw [lg_entry_eq]
  generalize (lg_sl ([.ref (q 0)]) ++ List.replicate (4 - (lg_sl ([.ref (q 0)])).length) Slot.unset).toArray = ls at hl ⊢
  have hl : lv_has ls 4 [(0, .ref (q 0))] := hl
  refine lv_iconst (v := nI 0) hx hb dX4_rounds_0 (by decide) ?_
  refine lv_istore_n (lv' := [(1, .int (nI 0)), (0, .ref (q 0))]) hx hb dX4_rounds_1 rfl hl (by decide) rfl (fun ls hl => ?_)
  refine lv_iconst (v := nI 0) hx hb dX4_rounds_2 (by decide) ?_
  refine lv_istore_n (lv' := [(2, .int (nI 0)), (1, .int (nI 0)), (0, .ref (q 0))]) hx hb dX4_rounds_3 rfl hl (by decide) rfl (fun ls hl => ?_)
  have LOOP4 : ∀ (n i : Nat) (ls : Array Slot) (H : Heap) (locs : List Loc), va_P D vwCl (pm_mo y q (pm_rds S i) gp gs kn ln sv pd) H → va_D (pm_ad (pm_mo y q S gp gs kn ln sv pd)) (pm_mo y q (pm_rds S i) gp gs kn ln sv pd) → va_S (pm_ad (pm_mo y q S gp gs kn ln sv pd)) s.heap H locs → i ≤ 30 → 30 - i < n → lv_has ls 4 [(0, .ref (q 0)), (1, .int (nI (pm_rct S i))), (2, .int (nI i))] → W p l e (headSpec wsX4_rounds ({ frames := 5, cells := 0, slots := 0, locals := 116 } : Room)).room s m ([.ref (q 0)] : List Value).toArray below meth c H locs 0 0 (MQ below (pm_Qi D (fun (r : Int32) (_ : Unit) => r = nI (pm_rct S 30)) (fun (_ : Unit) => pm_mo y q (pm_st (pm_mid2 S 3) 10 0 (S 10 0 + 1)) gp gs kn ln sv pd) (pm_mo y q S gp gs kn ln sv pd)) ([.ref (q 0)] : List Value).toArray s 0 0 (pm_ad (pm_mo y q S gp gs kn ln sv pd))) (F0 m 4 ls []) := by
    intro n
    induction n with
    | zero => intro i _ _ _ _ _ _ hi hn; omega
    | succ n ih1 =>
      intro i ls H locs  hP hD hS hi_i hn_i hl 
      refine lv_iload_n hx hb dX4_rounds_4 rfl (lv_at hl 2 rfl) ?_
      refine lv_bipush (v := nI 30) hx hb dX4_rounds_5 (by decide) ?_
      refine kx_icmp_ge (tgt := 51) hx hb (by omega) (by decide) dX4_rounds_7 (by decide) (fun c2 => ?_) (fun c2 => ?_)
      · skip
        obtain rfl : i = 30 := by omega
        have hP : va_P D vwCl (pm_mo y q (pm_mid2 S 0) gp gs kn ln sv pd) H := by rw [pm_mid2_z S]; exact hP
        have hD : va_D (pm_ad (pm_mo y q S gp gs kn ln sv pd)) (pm_mo y q (pm_mid2 S 0) gp gs kn ln sv pd) := by rw [pm_mid2_z S]; exact hD
        refine lv_iconst (v := nI 0) hx hb dX4_rounds_51 (by decide) ?_
        refine lv_istore_n (lv' := [(2, .int (nI 0)), (0, .ref (q 0)), (1, .int (nI (pm_rct S 30)))]) hx hb dX4_rounds_52 rfl hl (by decide) rfl (fun ls hl => ?_)
        refine lv_iload_n hx hb dX4_rounds_53 rfl (lv_at hl 0 rfl) ?_
        refine lv_iconst (v := nI 3) hx hb dX4_rounds_54 (by decide) ?_
        refine lv_icmp_ge (tgt := 99) hx hb dX4_rounds_55 (by decide) (fun c3 => absurd c3 (by decide)) (fun _ => ?_)
        refine lv_aload_n hx hb dX4_rounds_58 rfl (lv_at hl 1 rfl) ?_
        refine va_get (D := D) (ci := 4) (v := .ref (q 1)) (C := RX4) (T := TX4) (N := 7) hx hb hts hin4 hown hK hP 0 rfl rfl 0 (by decide) (hts (.fieldLink RX4 7 "ProofMarksModel" "s" "[I") (List.mem_of_getElem? (i := 1) rfl)) (fun _ h9 => h9) rfl dX4_rounds_59 ?_
        refine lv_iload_n hx hb dX4_rounds_62 rfl (lv_at hl 0 rfl) ?_
        refine lv_iconst (v := nI 0) hx hb dX4_rounds_63 (by decide) ?_
        refine vp_callSi (W.runS (As := [.int (nI 0), .int (nI 0)]) (rest := [.ref (q 1)]) ⟨hx, hb, hml, hown, hts⟩ (k_X4_of3 l 0 0) (va_cwS 2 hts gX4_rounds_X4_of3 rfl rfl rfl hd_X4_of3 ⟨Nat.le_of_ble_eq_true rfl, Nat.le_of_ble_eq_true rfl⟩) ⟨pm_no_blind, pm_no_pre⟩ rfl rfl hl.1 rfl (lv_room (Nat.le_of_ble_eq_true rfl)) dX4_rounds_64 ⟨Nat.le_of_ble_eq_true rfl, Nat.le_of_ble_eq_true rfl⟩) (fun r4 h5 => ?_)
        obtain rfl : r4 = nI (150 + 4 * 0 + 0) := h5
        refine kx_iald (v := nI ((pm_mid2 S 0) 5 0)) hx hb hK hP 1 0 rfl rfl (by omega) (by decide) (pm_ms_e (S := (pm_mid2 S 0)) (e := 0) 0 (by decide) (by omega)) dX4_rounds_67 ?_
        refine lv_topi (fun x6 e7 => ?_)
        obtain rfl : x6 = nI (S 5 0) := e7.trans (congrArg nI (pm_pts_o (S 5) 0 0 (Nat.le_refl 0)))
        have := hI.pts 0 (by decide)
        refine lv_iconst (v := nI 2) hx hb dX4_rounds_68 (by decide) ?_
        refine kx_iadd hx hb dX4_rounds_69 ?_
        refine lv_istore_n (lv' := [(3, .int (nI ((S 5 0) + 2))), (2, .int (nI 0)), (0, .ref (q 0)), (1, .int (nI (pm_rct S 30)))]) hx hb dX4_rounds_70 rfl hl (by decide) rfl (fun ls hl => ?_)
        refine lv_aload_n hx hb dX4_rounds_71 rfl (lv_at hl 2 rfl) ?_
        refine va_get (D := D) (ci := 4) (v := .ref (q 1)) (C := RX4) (T := TX4) (N := 7) hx hb hts hin4 hown hK hP 0 rfl rfl 0 (by decide) (hts (.fieldLink RX4 7 "ProofMarksModel" "s" "[I") (List.mem_of_getElem? (i := 1) rfl)) (fun _ h9 => h9) rfl dX4_rounds_72 ?_
        refine lv_iload_n hx hb dX4_rounds_75 rfl (lv_at hl 1 rfl) ?_
        refine lv_iconst (v := nI 0) hx hb dX4_rounds_76 (by decide) ?_
        refine vp_callSi (W.runS (As := [.int (nI 0), .int (nI 0)]) (rest := [.ref (q 1)]) ⟨hx, hb, hml, hown, hts⟩ (k_X4_of3 l 0 0) (va_cwS 2 hts gX4_rounds_X4_of3 rfl rfl rfl hd_X4_of3 ⟨Nat.le_of_ble_eq_true rfl, Nat.le_of_ble_eq_true rfl⟩) ⟨pm_no_blind, pm_no_pre⟩ rfl rfl hl.1 rfl (lv_room (Nat.le_of_ble_eq_true rfl)) dX4_rounds_77 ⟨Nat.le_of_ble_eq_true rfl, Nat.le_of_ble_eq_true rfl⟩) (fun r8 h9 => ?_)
        obtain rfl : r8 = nI (150 + 4 * 0 + 0) := h9
        refine lv_iload_n hx hb dX4_rounds_80 rfl (lv_at hl 0 rfl) ?_
        refine lv_bipush (v := nI 20) hx hb dX4_rounds_81 (by decide) ?_
        refine kx_icmp_le (tgt := 91) hx hb (by omega) (by decide) dX4_rounds_83 (by decide) (fun c10 => ?_) (fun c10 => ?_)
        · skip
          refine lv_iload_n hx hb dX4_rounds_91 rfl (lv_at hl 0 rfl) ?_
          refine kx_iast (ws' := pm_mo y q (pm_st (pm_mid2 S 0) 5 0 ((S 5 0) + 2)) gp gs kn ln sv pd) hx hb hK hP hD hS 1 0 rfl rfl (by omega) (by decide) (pm_ms_we (e := 0) 0 (by decide) (by omega)) rfl dX4_rounds_92 (fun H locs hP hD hS => ?_)
          have hP : va_P D vwCl (pm_mo y q (pm_mid2 S 1) gp gs kn ln sv pd) H := by rw [pm_mid2_s S 0]; (first | rw [if_pos (by omega)] | rw [if_neg (by omega)]); exact hP
          have hD : va_D (pm_ad (pm_mo y q S gp gs kn ln sv pd)) (pm_mo y q (pm_mid2 S 1) gp gs kn ln sv pd) := by rw [pm_mid2_s S 0]; (first | rw [if_pos (by omega)] | rw [if_neg (by omega)]); exact hD
          refine lv_iinc (v := nI 1) (lv' := [(2, .int (nI 1)), (3, .int (nI ((S 5 0) + 2))), (0, .ref (q 0)), (1, .int (nI (pm_rct S 30)))]) hx hb dX4_rounds_93 hl (k := 1) rfl (by decide) (by decide) rfl (fun ls hl => ?_)
          refine lv_goto (tgt := 53) hx hb dX4_rounds_96 (by decide) ?_
          refine lv_iload_n hx hb dX4_rounds_53 rfl (lv_at hl 0 rfl) ?_
          refine lv_iconst (v := nI 3) hx hb dX4_rounds_54 (by decide) ?_
          refine lv_icmp_ge (tgt := 99) hx hb dX4_rounds_55 (by decide) (fun c11 => absurd c11 (by decide)) (fun _ => ?_)
          refine lv_aload_n hx hb dX4_rounds_58 rfl (lv_at hl 2 rfl) ?_
          refine va_get (D := D) (ci := 4) (v := .ref (q 1)) (C := RX4) (T := TX4) (N := 7) hx hb hts hin4 hown hK hP 0 rfl rfl 0 (by decide) (hts (.fieldLink RX4 7 "ProofMarksModel" "s" "[I") (List.mem_of_getElem? (i := 1) rfl)) (fun _ h9 => h9) rfl dX4_rounds_59 ?_
          refine lv_iload_n hx hb dX4_rounds_62 rfl (lv_at hl 0 rfl) ?_
          refine lv_iconst (v := nI 0) hx hb dX4_rounds_63 (by decide) ?_
          refine vp_callSi (W.runS (As := [.int (nI 1), .int (nI 0)]) (rest := [.ref (q 1)]) ⟨hx, hb, hml, hown, hts⟩ (k_X4_of3 l 1 0) (va_cwS 2 hts gX4_rounds_X4_of3 rfl rfl rfl hd_X4_of3 ⟨Nat.le_of_ble_eq_true rfl, Nat.le_of_ble_eq_true rfl⟩) ⟨pm_no_blind, pm_no_pre⟩ rfl rfl hl.1 rfl (lv_room (Nat.le_of_ble_eq_true rfl)) dX4_rounds_64 ⟨Nat.le_of_ble_eq_true rfl, Nat.le_of_ble_eq_true rfl⟩) (fun r12 h13 => ?_)
          obtain rfl : r12 = nI (150 + 4 * 1 + 0) := h13
          refine kx_iald (v := nI ((pm_mid2 S 1) 5 1)) hx hb hK hP 1 0 rfl rfl (by omega) (by decide) (pm_ms_e (S := (pm_mid2 S 1)) (e := 1) 0 (by decide) (by omega)) dX4_rounds_67 ?_
          refine lv_topi (fun x14 e15 => ?_)
          obtain rfl : x14 = nI (S 5 1) := e15.trans (congrArg nI (pm_pts_o (S 5) 1 1 (Nat.le_refl 1)))
          have := hI.pts 1 (by decide)
          refine lv_iconst (v := nI 2) hx hb dX4_rounds_68 (by decide) ?_
          refine kx_iadd hx hb dX4_rounds_69 ?_
          refine lv_istore_n (lv' := [(3, .int (nI ((S 5 1) + 2))), (2, .int (nI 1)), (0, .ref (q 0)), (1, .int (nI (pm_rct S 30)))]) hx hb dX4_rounds_70 rfl hl (by decide) rfl (fun ls hl => ?_)
          refine lv_aload_n hx hb dX4_rounds_71 rfl (lv_at hl 2 rfl) ?_
          refine va_get (D := D) (ci := 4) (v := .ref (q 1)) (C := RX4) (T := TX4) (N := 7) hx hb hts hin4 hown hK hP 0 rfl rfl 0 (by decide) (hts (.fieldLink RX4 7 "ProofMarksModel" "s" "[I") (List.mem_of_getElem? (i := 1) rfl)) (fun _ h9 => h9) rfl dX4_rounds_72 ?_
          refine lv_iload_n hx hb dX4_rounds_75 rfl (lv_at hl 1 rfl) ?_
          refine lv_iconst (v := nI 0) hx hb dX4_rounds_76 (by decide) ?_
          refine vp_callSi (W.runS (As := [.int (nI 1), .int (nI 0)]) (rest := [.ref (q 1)]) ⟨hx, hb, hml, hown, hts⟩ (k_X4_of3 l 1 0) (va_cwS 2 hts gX4_rounds_X4_of3 rfl rfl rfl hd_X4_of3 ⟨Nat.le_of_ble_eq_true rfl, Nat.le_of_ble_eq_true rfl⟩) ⟨pm_no_blind, pm_no_pre⟩ rfl rfl hl.1 rfl (lv_room (Nat.le_of_ble_eq_true rfl)) dX4_rounds_77 ⟨Nat.le_of_ble_eq_true rfl, Nat.le_of_ble_eq_true rfl⟩) (fun r16 h17 => ?_)
          obtain rfl : r16 = nI (150 + 4 * 1 + 0) := h17
          refine lv_iload_n hx hb dX4_rounds_80 rfl (lv_at hl 0 rfl) ?_
          refine lv_bipush (v := nI 20) hx hb dX4_rounds_81 (by decide) ?_
          refine kx_icmp_le (tgt := 91) hx hb (by omega) (by decide) dX4_rounds_83 (by decide) (fun c18 => ?_) (fun c18 => ?_)
          · skip
            refine lv_iload_n hx hb dX4_rounds_91 rfl (lv_at hl 0 rfl) ?_
            refine kx_iast (ws' := pm_mo y q (pm_st (pm_mid2 S 1) 5 1 ((S 5 1) + 2)) gp gs kn ln sv pd) hx hb hK hP hD hS 1 0 rfl rfl (by omega) (by decide) (pm_ms_we (e := 1) 0 (by decide) (by omega)) rfl dX4_rounds_92 (fun H locs hP hD hS => ?_)
            have hP : va_P D vwCl (pm_mo y q (pm_mid2 S 2) gp gs kn ln sv pd) H := by rw [pm_mid2_s S 1]; (first | rw [if_pos (by omega)] | rw [if_neg (by omega)]); exact hP
            have hD : va_D (pm_ad (pm_mo y q S gp gs kn ln sv pd)) (pm_mo y q (pm_mid2 S 2) gp gs kn ln sv pd) := by rw [pm_mid2_s S 1]; (first | rw [if_pos (by omega)] | rw [if_neg (by omega)]); exact hD
            refine lv_iinc (v := nI 2) (lv' := [(2, .int (nI 2)), (3, .int (nI ((S 5 1) + 2))), (0, .ref (q 0)), (1, .int (nI (pm_rct S 30)))]) hx hb dX4_rounds_93 hl (k := 1) rfl (by decide) (by decide) rfl (fun ls hl => ?_)
            refine lv_goto (tgt := 53) hx hb dX4_rounds_96 (by decide) ?_
            refine lv_iload_n hx hb dX4_rounds_53 rfl (lv_at hl 0 rfl) ?_
            refine lv_iconst (v := nI 3) hx hb dX4_rounds_54 (by decide) ?_
            refine lv_icmp_ge (tgt := 99) hx hb dX4_rounds_55 (by decide) (fun c19 => absurd c19 (by decide)) (fun _ => ?_)
            refine lv_aload_n hx hb dX4_rounds_58 rfl (lv_at hl 2 rfl) ?_
            refine va_get (D := D) (ci := 4) (v := .ref (q 1)) (C := RX4) (T := TX4) (N := 7) hx hb hts hin4 hown hK hP 0 rfl rfl 0 (by decide) (hts (.fieldLink RX4 7 "ProofMarksModel" "s" "[I") (List.mem_of_getElem? (i := 1) rfl)) (fun _ h9 => h9) rfl dX4_rounds_59 ?_
            refine lv_iload_n hx hb dX4_rounds_62 rfl (lv_at hl 0 rfl) ?_
            refine lv_iconst (v := nI 0) hx hb dX4_rounds_63 (by decide) ?_
            refine vp_callSi (W.runS (As := [.int (nI 2), .int (nI 0)]) (rest := [.ref (q 1)]) ⟨hx, hb, hml, hown, hts⟩ (k_X4_of3 l 2 0) (va_cwS 2 hts gX4_rounds_X4_of3 rfl rfl rfl hd_X4_of3 ⟨Nat.le_of_ble_eq_true rfl, Nat.le_of_ble_eq_true rfl⟩) ⟨pm_no_blind, pm_no_pre⟩ rfl rfl hl.1 rfl (lv_room (Nat.le_of_ble_eq_true rfl)) dX4_rounds_64 ⟨Nat.le_of_ble_eq_true rfl, Nat.le_of_ble_eq_true rfl⟩) (fun r20 h21 => ?_)
            obtain rfl : r20 = nI (150 + 4 * 2 + 0) := h21
            refine kx_iald (v := nI ((pm_mid2 S 2) 5 2)) hx hb hK hP 1 0 rfl rfl (by omega) (by decide) (pm_ms_e (S := (pm_mid2 S 2)) (e := 2) 0 (by decide) (by omega)) dX4_rounds_67 ?_
            refine lv_topi (fun x22 e23 => ?_)
            obtain rfl : x22 = nI (S 5 2) := e23.trans (congrArg nI (pm_pts_o (S 5) 2 2 (Nat.le_refl 2)))
            have := hI.pts 2 (by decide)
            refine lv_iconst (v := nI 2) hx hb dX4_rounds_68 (by decide) ?_
            refine kx_iadd hx hb dX4_rounds_69 ?_
            refine lv_istore_n (lv' := [(3, .int (nI ((S 5 2) + 2))), (2, .int (nI 2)), (0, .ref (q 0)), (1, .int (nI (pm_rct S 30)))]) hx hb dX4_rounds_70 rfl hl (by decide) rfl (fun ls hl => ?_)
            refine lv_aload_n hx hb dX4_rounds_71 rfl (lv_at hl 2 rfl) ?_
            refine va_get (D := D) (ci := 4) (v := .ref (q 1)) (C := RX4) (T := TX4) (N := 7) hx hb hts hin4 hown hK hP 0 rfl rfl 0 (by decide) (hts (.fieldLink RX4 7 "ProofMarksModel" "s" "[I") (List.mem_of_getElem? (i := 1) rfl)) (fun _ h9 => h9) rfl dX4_rounds_72 ?_
            refine lv_iload_n hx hb dX4_rounds_75 rfl (lv_at hl 1 rfl) ?_
            refine lv_iconst (v := nI 0) hx hb dX4_rounds_76 (by decide) ?_
            refine vp_callSi (W.runS (As := [.int (nI 2), .int (nI 0)]) (rest := [.ref (q 1)]) ⟨hx, hb, hml, hown, hts⟩ (k_X4_of3 l 2 0) (va_cwS 2 hts gX4_rounds_X4_of3 rfl rfl rfl hd_X4_of3 ⟨Nat.le_of_ble_eq_true rfl, Nat.le_of_ble_eq_true rfl⟩) ⟨pm_no_blind, pm_no_pre⟩ rfl rfl hl.1 rfl (lv_room (Nat.le_of_ble_eq_true rfl)) dX4_rounds_77 ⟨Nat.le_of_ble_eq_true rfl, Nat.le_of_ble_eq_true rfl⟩) (fun r24 h25 => ?_)
            obtain rfl : r24 = nI (150 + 4 * 2 + 0) := h25
            refine lv_iload_n hx hb dX4_rounds_80 rfl (lv_at hl 0 rfl) ?_
            refine lv_bipush (v := nI 20) hx hb dX4_rounds_81 (by decide) ?_
            refine kx_icmp_le (tgt := 91) hx hb (by omega) (by decide) dX4_rounds_83 (by decide) (fun c26 => ?_) (fun c26 => ?_)
            · skip
              refine lv_iload_n hx hb dX4_rounds_91 rfl (lv_at hl 0 rfl) ?_
              refine kx_iast (ws' := pm_mo y q (pm_st (pm_mid2 S 2) 5 2 ((S 5 2) + 2)) gp gs kn ln sv pd) hx hb hK hP hD hS 1 0 rfl rfl (by omega) (by decide) (pm_ms_we (e := 2) 0 (by decide) (by omega)) rfl dX4_rounds_92 (fun H locs hP hD hS => ?_)
              have hP : va_P D vwCl (pm_mo y q (pm_mid2 S 3) gp gs kn ln sv pd) H := by rw [pm_mid2_s S 2]; (first | rw [if_pos (by omega)] | rw [if_neg (by omega)]); exact hP
              have hD : va_D (pm_ad (pm_mo y q S gp gs kn ln sv pd)) (pm_mo y q (pm_mid2 S 3) gp gs kn ln sv pd) := by rw [pm_mid2_s S 2]; (first | rw [if_pos (by omega)] | rw [if_neg (by omega)]); exact hD
              refine lv_iinc (v := nI 3) (lv' := [(2, .int (nI 3)), (3, .int (nI ((S 5 2) + 2))), (0, .ref (q 0)), (1, .int (nI (pm_rct S 30)))]) hx hb dX4_rounds_93 hl (k := 1) rfl (by decide) (by decide) rfl (fun ls hl => ?_)
              refine lv_goto (tgt := 53) hx hb dX4_rounds_96 (by decide) ?_
              refine lv_iload_n hx hb dX4_rounds_53 rfl (lv_at hl 0 rfl) ?_
              refine lv_iconst (v := nI 3) hx hb dX4_rounds_54 (by decide) ?_
              refine lv_icmp_ge (tgt := 99) hx hb dX4_rounds_55 (by decide) (fun _ => ?_) (fun c27 => (c27 (by decide)).elim)
              refine lv_aload_n hx hb dX4_rounds_99 rfl (lv_at hl 2 rfl) ?_
              refine va_get (D := D) (ci := 4) (v := .ref (q 1)) (C := RX4) (T := TX4) (N := 7) hx hb hts hin4 hown hK hP 0 rfl rfl 0 (by decide) (hts (.fieldLink RX4 7 "ProofMarksModel" "s" "[I") (List.mem_of_getElem? (i := 1) rfl)) (fun _ h9 => h9) rfl dX4_rounds_100 ?_
              refine lv_sipush (v := nI 166) hx hb dX4_rounds_103 (by decide) ?_
              refine lv_dup2_11 hx hb dX4_rounds_106 rfl rfl ?_
              refine kx_iald (v := nI ((pm_mid2 S 3) 10 0)) hx hb hK hP 1 0 rfl rfl (by omega) (by decide) (pm_ms_r (S := (pm_mid2 S 3)) (k := 0) (by decide)) dX4_rounds_107 ?_
              refine lv_topi (fun x28 e29 => ?_)
              obtain rfl : x28 = nI (S 10 0) := e29.trans (congrArg nI (pm_rds_9 S (by decide) 0 30))
              refine lv_iconst (v := nI 1) hx hb dX4_rounds_108 (by decide) ?_
              refine kx_iadd hx hb dX4_rounds_109 ?_
              refine kx_iast (ws' := pm_mo y q (pm_st (pm_mid2 S 3) 10 0 ((S 10 0) + 1)) gp gs kn ln sv pd) hx hb hK hP hD hS 1 0 rfl rfl (by omega) (by decide) (pm_ms_wr (k := 0) (by decide)) rfl dX4_rounds_110 (fun H locs hP hD hS => ?_)
              refine lv_iload_n hx hb dX4_rounds_111 rfl (lv_at hl 3 rfl) ?_
              exact W.iret hx hb hr (fun t ht _ => ⟨⟨_, (), rfl, rfl, (by show va_P D vwCl (pm_mo y q (pm_st (pm_mid2 S 3) 10 0 (S 10 0 + 1)) gp gs kn ln sv pd) t.heap; rw [ht]; exact hP)⟩, hS.F ht⟩) hS.2.2 dX4_rounds_112
            · skip
              refine lv_bipush (v := nI 20) hx hb dX4_rounds_86 (by decide) ?_
              refine lv_goto (tgt := 92) hx hb dX4_rounds_88 (by decide) ?_
              refine kx_iast (ws' := pm_mo y q (pm_st (pm_mid2 S 2) 5 2 20) gp gs kn ln sv pd) hx hb hK hP hD hS 1 0 rfl rfl (by omega) (by decide) (pm_ms_we (e := 2) 0 (by decide) (by omega)) rfl dX4_rounds_92 (fun H locs hP hD hS => ?_)
              have hP : va_P D vwCl (pm_mo y q (pm_mid2 S 3) gp gs kn ln sv pd) H := by rw [pm_mid2_s S 2]; (first | rw [if_pos (by omega)] | rw [if_neg (by omega)]); exact hP
              have hD : va_D (pm_ad (pm_mo y q S gp gs kn ln sv pd)) (pm_mo y q (pm_mid2 S 3) gp gs kn ln sv pd) := by rw [pm_mid2_s S 2]; (first | rw [if_pos (by omega)] | rw [if_neg (by omega)]); exact hD
              refine lv_iinc (v := nI 3) (lv' := [(2, .int (nI 3)), (3, .int (nI ((S 5 2) + 2))), (0, .ref (q 0)), (1, .int (nI (pm_rct S 30)))]) hx hb dX4_rounds_93 hl (k := 1) rfl (by decide) (by decide) rfl (fun ls hl => ?_)
              refine lv_goto (tgt := 53) hx hb dX4_rounds_96 (by decide) ?_
              refine lv_iload_n hx hb dX4_rounds_53 rfl (lv_at hl 0 rfl) ?_
              refine lv_iconst (v := nI 3) hx hb dX4_rounds_54 (by decide) ?_
              refine lv_icmp_ge (tgt := 99) hx hb dX4_rounds_55 (by decide) (fun _ => ?_) (fun c30 => (c30 (by decide)).elim)
              refine lv_aload_n hx hb dX4_rounds_99 rfl (lv_at hl 2 rfl) ?_
              refine va_get (D := D) (ci := 4) (v := .ref (q 1)) (C := RX4) (T := TX4) (N := 7) hx hb hts hin4 hown hK hP 0 rfl rfl 0 (by decide) (hts (.fieldLink RX4 7 "ProofMarksModel" "s" "[I") (List.mem_of_getElem? (i := 1) rfl)) (fun _ h9 => h9) rfl dX4_rounds_100 ?_
              refine lv_sipush (v := nI 166) hx hb dX4_rounds_103 (by decide) ?_
              refine lv_dup2_11 hx hb dX4_rounds_106 rfl rfl ?_
              refine kx_iald (v := nI ((pm_mid2 S 3) 10 0)) hx hb hK hP 1 0 rfl rfl (by omega) (by decide) (pm_ms_r (S := (pm_mid2 S 3)) (k := 0) (by decide)) dX4_rounds_107 ?_
              refine lv_topi (fun x31 e32 => ?_)
              obtain rfl : x31 = nI (S 10 0) := e32.trans (congrArg nI (pm_rds_9 S (by decide) 0 30))
              refine lv_iconst (v := nI 1) hx hb dX4_rounds_108 (by decide) ?_
              refine kx_iadd hx hb dX4_rounds_109 ?_
              refine kx_iast (ws' := pm_mo y q (pm_st (pm_mid2 S 3) 10 0 ((S 10 0) + 1)) gp gs kn ln sv pd) hx hb hK hP hD hS 1 0 rfl rfl (by omega) (by decide) (pm_ms_wr (k := 0) (by decide)) rfl dX4_rounds_110 (fun H locs hP hD hS => ?_)
              refine lv_iload_n hx hb dX4_rounds_111 rfl (lv_at hl 3 rfl) ?_
              exact W.iret hx hb hr (fun t ht _ => ⟨⟨_, (), rfl, rfl, (by show va_P D vwCl (pm_mo y q (pm_st (pm_mid2 S 3) 10 0 (S 10 0 + 1)) gp gs kn ln sv pd) t.heap; rw [ht]; exact hP)⟩, hS.F ht⟩) hS.2.2 dX4_rounds_112
          · skip
            refine lv_bipush (v := nI 20) hx hb dX4_rounds_86 (by decide) ?_
            refine lv_goto (tgt := 92) hx hb dX4_rounds_88 (by decide) ?_
            refine kx_iast (ws' := pm_mo y q (pm_st (pm_mid2 S 1) 5 1 20) gp gs kn ln sv pd) hx hb hK hP hD hS 1 0 rfl rfl (by omega) (by decide) (pm_ms_we (e := 1) 0 (by decide) (by omega)) rfl dX4_rounds_92 (fun H locs hP hD hS => ?_)
            have hP : va_P D vwCl (pm_mo y q (pm_mid2 S 2) gp gs kn ln sv pd) H := by rw [pm_mid2_s S 1]; (first | rw [if_pos (by omega)] | rw [if_neg (by omega)]); exact hP
            have hD : va_D (pm_ad (pm_mo y q S gp gs kn ln sv pd)) (pm_mo y q (pm_mid2 S 2) gp gs kn ln sv pd) := by rw [pm_mid2_s S 1]; (first | rw [if_pos (by omega)] | rw [if_neg (by omega)]); exact hD
            refine lv_iinc (v := nI 2) (lv' := [(2, .int (nI 2)), (3, .int (nI ((S 5 1) + 2))), (0, .ref (q 0)), (1, .int (nI (pm_rct S 30)))]) hx hb dX4_rounds_93 hl (k := 1) rfl (by decide) (by decide) rfl (fun ls hl => ?_)
            refine lv_goto (tgt := 53) hx hb dX4_rounds_96 (by decide) ?_
            refine lv_iload_n hx hb dX4_rounds_53 rfl (lv_at hl 0 rfl) ?_
            refine lv_iconst (v := nI 3) hx hb dX4_rounds_54 (by decide) ?_
            refine lv_icmp_ge (tgt := 99) hx hb dX4_rounds_55 (by decide) (fun c33 => absurd c33 (by decide)) (fun _ => ?_)
            refine lv_aload_n hx hb dX4_rounds_58 rfl (lv_at hl 2 rfl) ?_
            refine va_get (D := D) (ci := 4) (v := .ref (q 1)) (C := RX4) (T := TX4) (N := 7) hx hb hts hin4 hown hK hP 0 rfl rfl 0 (by decide) (hts (.fieldLink RX4 7 "ProofMarksModel" "s" "[I") (List.mem_of_getElem? (i := 1) rfl)) (fun _ h9 => h9) rfl dX4_rounds_59 ?_
            refine lv_iload_n hx hb dX4_rounds_62 rfl (lv_at hl 0 rfl) ?_
            refine lv_iconst (v := nI 0) hx hb dX4_rounds_63 (by decide) ?_
            refine vp_callSi (W.runS (As := [.int (nI 2), .int (nI 0)]) (rest := [.ref (q 1)]) ⟨hx, hb, hml, hown, hts⟩ (k_X4_of3 l 2 0) (va_cwS 2 hts gX4_rounds_X4_of3 rfl rfl rfl hd_X4_of3 ⟨Nat.le_of_ble_eq_true rfl, Nat.le_of_ble_eq_true rfl⟩) ⟨pm_no_blind, pm_no_pre⟩ rfl rfl hl.1 rfl (lv_room (Nat.le_of_ble_eq_true rfl)) dX4_rounds_64 ⟨Nat.le_of_ble_eq_true rfl, Nat.le_of_ble_eq_true rfl⟩) (fun r34 h35 => ?_)
            obtain rfl : r34 = nI (150 + 4 * 2 + 0) := h35
            refine kx_iald (v := nI ((pm_mid2 S 2) 5 2)) hx hb hK hP 1 0 rfl rfl (by omega) (by decide) (pm_ms_e (S := (pm_mid2 S 2)) (e := 2) 0 (by decide) (by omega)) dX4_rounds_67 ?_
            refine lv_topi (fun x36 e37 => ?_)
            obtain rfl : x36 = nI (S 5 2) := e37.trans (congrArg nI (pm_pts_o (S 5) 2 2 (Nat.le_refl 2)))
            have := hI.pts 2 (by decide)
            refine lv_iconst (v := nI 2) hx hb dX4_rounds_68 (by decide) ?_
            refine kx_iadd hx hb dX4_rounds_69 ?_
            refine lv_istore_n (lv' := [(3, .int (nI ((S 5 2) + 2))), (2, .int (nI 2)), (0, .ref (q 0)), (1, .int (nI (pm_rct S 30)))]) hx hb dX4_rounds_70 rfl hl (by decide) rfl (fun ls hl => ?_)
            refine lv_aload_n hx hb dX4_rounds_71 rfl (lv_at hl 2 rfl) ?_
            refine va_get (D := D) (ci := 4) (v := .ref (q 1)) (C := RX4) (T := TX4) (N := 7) hx hb hts hin4 hown hK hP 0 rfl rfl 0 (by decide) (hts (.fieldLink RX4 7 "ProofMarksModel" "s" "[I") (List.mem_of_getElem? (i := 1) rfl)) (fun _ h9 => h9) rfl dX4_rounds_72 ?_
            refine lv_iload_n hx hb dX4_rounds_75 rfl (lv_at hl 1 rfl) ?_
            refine lv_iconst (v := nI 0) hx hb dX4_rounds_76 (by decide) ?_
            refine vp_callSi (W.runS (As := [.int (nI 2), .int (nI 0)]) (rest := [.ref (q 1)]) ⟨hx, hb, hml, hown, hts⟩ (k_X4_of3 l 2 0) (va_cwS 2 hts gX4_rounds_X4_of3 rfl rfl rfl hd_X4_of3 ⟨Nat.le_of_ble_eq_true rfl, Nat.le_of_ble_eq_true rfl⟩) ⟨pm_no_blind, pm_no_pre⟩ rfl rfl hl.1 rfl (lv_room (Nat.le_of_ble_eq_true rfl)) dX4_rounds_77 ⟨Nat.le_of_ble_eq_true rfl, Nat.le_of_ble_eq_true rfl⟩) (fun r38 h39 => ?_)
            obtain rfl : r38 = nI (150 + 4 * 2 + 0) := h39
            refine lv_iload_n hx hb dX4_rounds_80 rfl (lv_at hl 0 rfl) ?_
            refine lv_bipush (v := nI 20) hx hb dX4_rounds_81 (by decide) ?_
            refine kx_icmp_le (tgt := 91) hx hb (by omega) (by decide) dX4_rounds_83 (by decide) (fun c40 => ?_) (fun c40 => ?_)
            · skip
              refine lv_iload_n hx hb dX4_rounds_91 rfl (lv_at hl 0 rfl) ?_
              refine kx_iast (ws' := pm_mo y q (pm_st (pm_mid2 S 2) 5 2 ((S 5 2) + 2)) gp gs kn ln sv pd) hx hb hK hP hD hS 1 0 rfl rfl (by omega) (by decide) (pm_ms_we (e := 2) 0 (by decide) (by omega)) rfl dX4_rounds_92 (fun H locs hP hD hS => ?_)
              have hP : va_P D vwCl (pm_mo y q (pm_mid2 S 3) gp gs kn ln sv pd) H := by rw [pm_mid2_s S 2]; (first | rw [if_pos (by omega)] | rw [if_neg (by omega)]); exact hP
              have hD : va_D (pm_ad (pm_mo y q S gp gs kn ln sv pd)) (pm_mo y q (pm_mid2 S 3) gp gs kn ln sv pd) := by rw [pm_mid2_s S 2]; (first | rw [if_pos (by omega)] | rw [if_neg (by omega)]); exact hD
              refine lv_iinc (v := nI 3) (lv' := [(2, .int (nI 3)), (3, .int (nI ((S 5 2) + 2))), (0, .ref (q 0)), (1, .int (nI (pm_rct S 30)))]) hx hb dX4_rounds_93 hl (k := 1) rfl (by decide) (by decide) rfl (fun ls hl => ?_)
              refine lv_goto (tgt := 53) hx hb dX4_rounds_96 (by decide) ?_
              refine lv_iload_n hx hb dX4_rounds_53 rfl (lv_at hl 0 rfl) ?_
              refine lv_iconst (v := nI 3) hx hb dX4_rounds_54 (by decide) ?_
              refine lv_icmp_ge (tgt := 99) hx hb dX4_rounds_55 (by decide) (fun _ => ?_) (fun c41 => (c41 (by decide)).elim)
              refine lv_aload_n hx hb dX4_rounds_99 rfl (lv_at hl 2 rfl) ?_
              refine va_get (D := D) (ci := 4) (v := .ref (q 1)) (C := RX4) (T := TX4) (N := 7) hx hb hts hin4 hown hK hP 0 rfl rfl 0 (by decide) (hts (.fieldLink RX4 7 "ProofMarksModel" "s" "[I") (List.mem_of_getElem? (i := 1) rfl)) (fun _ h9 => h9) rfl dX4_rounds_100 ?_
              refine lv_sipush (v := nI 166) hx hb dX4_rounds_103 (by decide) ?_
              refine lv_dup2_11 hx hb dX4_rounds_106 rfl rfl ?_
              refine kx_iald (v := nI ((pm_mid2 S 3) 10 0)) hx hb hK hP 1 0 rfl rfl (by omega) (by decide) (pm_ms_r (S := (pm_mid2 S 3)) (k := 0) (by decide)) dX4_rounds_107 ?_
              refine lv_topi (fun x42 e43 => ?_)
              obtain rfl : x42 = nI (S 10 0) := e43.trans (congrArg nI (pm_rds_9 S (by decide) 0 30))
              refine lv_iconst (v := nI 1) hx hb dX4_rounds_108 (by decide) ?_
              refine kx_iadd hx hb dX4_rounds_109 ?_
              refine kx_iast (ws' := pm_mo y q (pm_st (pm_mid2 S 3) 10 0 ((S 10 0) + 1)) gp gs kn ln sv pd) hx hb hK hP hD hS 1 0 rfl rfl (by omega) (by decide) (pm_ms_wr (k := 0) (by decide)) rfl dX4_rounds_110 (fun H locs hP hD hS => ?_)
              refine lv_iload_n hx hb dX4_rounds_111 rfl (lv_at hl 3 rfl) ?_
              exact W.iret hx hb hr (fun t ht _ => ⟨⟨_, (), rfl, rfl, (by show va_P D vwCl (pm_mo y q (pm_st (pm_mid2 S 3) 10 0 (S 10 0 + 1)) gp gs kn ln sv pd) t.heap; rw [ht]; exact hP)⟩, hS.F ht⟩) hS.2.2 dX4_rounds_112
            · skip
              refine lv_bipush (v := nI 20) hx hb dX4_rounds_86 (by decide) ?_
              refine lv_goto (tgt := 92) hx hb dX4_rounds_88 (by decide) ?_
              refine kx_iast (ws' := pm_mo y q (pm_st (pm_mid2 S 2) 5 2 20) gp gs kn ln sv pd) hx hb hK hP hD hS 1 0 rfl rfl (by omega) (by decide) (pm_ms_we (e := 2) 0 (by decide) (by omega)) rfl dX4_rounds_92 (fun H locs hP hD hS => ?_)
              have hP : va_P D vwCl (pm_mo y q (pm_mid2 S 3) gp gs kn ln sv pd) H := by rw [pm_mid2_s S 2]; (first | rw [if_pos (by omega)] | rw [if_neg (by omega)]); exact hP
              have hD : va_D (pm_ad (pm_mo y q S gp gs kn ln sv pd)) (pm_mo y q (pm_mid2 S 3) gp gs kn ln sv pd) := by rw [pm_mid2_s S 2]; (first | rw [if_pos (by omega)] | rw [if_neg (by omega)]); exact hD
              refine lv_iinc (v := nI 3) (lv' := [(2, .int (nI 3)), (3, .int (nI ((S 5 2) + 2))), (0, .ref (q 0)), (1, .int (nI (pm_rct S 30)))]) hx hb dX4_rounds_93 hl (k := 1) rfl (by decide) (by decide) rfl (fun ls hl => ?_)
              refine lv_goto (tgt := 53) hx hb dX4_rounds_96 (by decide) ?_
              refine lv_iload_n hx hb dX4_rounds_53 rfl (lv_at hl 0 rfl) ?_
              refine lv_iconst (v := nI 3) hx hb dX4_rounds_54 (by decide) ?_
              refine lv_icmp_ge (tgt := 99) hx hb dX4_rounds_55 (by decide) (fun _ => ?_) (fun c44 => (c44 (by decide)).elim)
              refine lv_aload_n hx hb dX4_rounds_99 rfl (lv_at hl 2 rfl) ?_
              refine va_get (D := D) (ci := 4) (v := .ref (q 1)) (C := RX4) (T := TX4) (N := 7) hx hb hts hin4 hown hK hP 0 rfl rfl 0 (by decide) (hts (.fieldLink RX4 7 "ProofMarksModel" "s" "[I") (List.mem_of_getElem? (i := 1) rfl)) (fun _ h9 => h9) rfl dX4_rounds_100 ?_
              refine lv_sipush (v := nI 166) hx hb dX4_rounds_103 (by decide) ?_
              refine lv_dup2_11 hx hb dX4_rounds_106 rfl rfl ?_
              refine kx_iald (v := nI ((pm_mid2 S 3) 10 0)) hx hb hK hP 1 0 rfl rfl (by omega) (by decide) (pm_ms_r (S := (pm_mid2 S 3)) (k := 0) (by decide)) dX4_rounds_107 ?_
              refine lv_topi (fun x45 e46 => ?_)
              obtain rfl : x45 = nI (S 10 0) := e46.trans (congrArg nI (pm_rds_9 S (by decide) 0 30))
              refine lv_iconst (v := nI 1) hx hb dX4_rounds_108 (by decide) ?_
              refine kx_iadd hx hb dX4_rounds_109 ?_
              refine kx_iast (ws' := pm_mo y q (pm_st (pm_mid2 S 3) 10 0 ((S 10 0) + 1)) gp gs kn ln sv pd) hx hb hK hP hD hS 1 0 rfl rfl (by omega) (by decide) (pm_ms_wr (k := 0) (by decide)) rfl dX4_rounds_110 (fun H locs hP hD hS => ?_)
              refine lv_iload_n hx hb dX4_rounds_111 rfl (lv_at hl 3 rfl) ?_
              exact W.iret hx hb hr (fun t ht _ => ⟨⟨_, (), rfl, rfl, (by show va_P D vwCl (pm_mo y q (pm_st (pm_mid2 S 3) 10 0 (S 10 0 + 1)) gp gs kn ln sv pd) t.heap; rw [ht]; exact hP)⟩, hS.F ht⟩) hS.2.2 dX4_rounds_112
        · skip
          refine lv_bipush (v := nI 20) hx hb dX4_rounds_86 (by decide) ?_
          refine lv_goto (tgt := 92) hx hb dX4_rounds_88 (by decide) ?_
          refine kx_iast (ws' := pm_mo y q (pm_st (pm_mid2 S 0) 5 0 20) gp gs kn ln sv pd) hx hb hK hP hD hS 1 0 rfl rfl (by omega) (by decide) (pm_ms_we (e := 0) 0 (by decide) (by omega)) rfl dX4_rounds_92 (fun H locs hP hD hS => ?_)
          have hP : va_P D vwCl (pm_mo y q (pm_mid2 S 1) gp gs kn ln sv pd) H := by rw [pm_mid2_s S 0]; (first | rw [if_pos (by omega)] | rw [if_neg (by omega)]); exact hP
          have hD : va_D (pm_ad (pm_mo y q S gp gs kn ln sv pd)) (pm_mo y q (pm_mid2 S 1) gp gs kn ln sv pd) := by rw [pm_mid2_s S 0]; (first | rw [if_pos (by omega)] | rw [if_neg (by omega)]); exact hD
          refine lv_iinc (v := nI 1) (lv' := [(2, .int (nI 1)), (3, .int (nI ((S 5 0) + 2))), (0, .ref (q 0)), (1, .int (nI (pm_rct S 30)))]) hx hb dX4_rounds_93 hl (k := 1) rfl (by decide) (by decide) rfl (fun ls hl => ?_)
          refine lv_goto (tgt := 53) hx hb dX4_rounds_96 (by decide) ?_
          refine lv_iload_n hx hb dX4_rounds_53 rfl (lv_at hl 0 rfl) ?_
          refine lv_iconst (v := nI 3) hx hb dX4_rounds_54 (by decide) ?_
          refine lv_icmp_ge (tgt := 99) hx hb dX4_rounds_55 (by decide) (fun c47 => absurd c47 (by decide)) (fun _ => ?_)
          refine lv_aload_n hx hb dX4_rounds_58 rfl (lv_at hl 2 rfl) ?_
          refine va_get (D := D) (ci := 4) (v := .ref (q 1)) (C := RX4) (T := TX4) (N := 7) hx hb hts hin4 hown hK hP 0 rfl rfl 0 (by decide) (hts (.fieldLink RX4 7 "ProofMarksModel" "s" "[I") (List.mem_of_getElem? (i := 1) rfl)) (fun _ h9 => h9) rfl dX4_rounds_59 ?_
          refine lv_iload_n hx hb dX4_rounds_62 rfl (lv_at hl 0 rfl) ?_
          refine lv_iconst (v := nI 0) hx hb dX4_rounds_63 (by decide) ?_
          refine vp_callSi (W.runS (As := [.int (nI 1), .int (nI 0)]) (rest := [.ref (q 1)]) ⟨hx, hb, hml, hown, hts⟩ (k_X4_of3 l 1 0) (va_cwS 2 hts gX4_rounds_X4_of3 rfl rfl rfl hd_X4_of3 ⟨Nat.le_of_ble_eq_true rfl, Nat.le_of_ble_eq_true rfl⟩) ⟨pm_no_blind, pm_no_pre⟩ rfl rfl hl.1 rfl (lv_room (Nat.le_of_ble_eq_true rfl)) dX4_rounds_64 ⟨Nat.le_of_ble_eq_true rfl, Nat.le_of_ble_eq_true rfl⟩) (fun r48 h49 => ?_)
          obtain rfl : r48 = nI (150 + 4 * 1 + 0) := h49
          refine kx_iald (v := nI ((pm_mid2 S 1) 5 1)) hx hb hK hP 1 0 rfl rfl (by omega) (by decide) (pm_ms_e (S := (pm_mid2 S 1)) (e := 1) 0 (by decide) (by omega)) dX4_rounds_67 ?_
          refine lv_topi (fun x50 e51 => ?_)
          obtain rfl : x50 = nI (S 5 1) := e51.trans (congrArg nI (pm_pts_o (S 5) 1 1 (Nat.le_refl 1)))
          have := hI.pts 1 (by decide)
          refine lv_iconst (v := nI 2) hx hb dX4_rounds_68 (by decide) ?_
          refine kx_iadd hx hb dX4_rounds_69 ?_
          refine lv_istore_n (lv' := [(3, .int (nI ((S 5 1) + 2))), (2, .int (nI 1)), (0, .ref (q 0)), (1, .int (nI (pm_rct S 30)))]) hx hb dX4_rounds_70 rfl hl (by decide) rfl (fun ls hl => ?_)
          refine lv_aload_n hx hb dX4_rounds_71 rfl (lv_at hl 2 rfl) ?_
          refine va_get (D := D) (ci := 4) (v := .ref (q 1)) (C := RX4) (T := TX4) (N := 7) hx hb hts hin4 hown hK hP 0 rfl rfl 0 (by decide) (hts (.fieldLink RX4 7 "ProofMarksModel" "s" "[I") (List.mem_of_getElem? (i := 1) rfl)) (fun _ h9 => h9) rfl dX4_rounds_72 ?_
          refine lv_iload_n hx hb dX4_rounds_75 rfl (lv_at hl 1 rfl) ?_
          refine lv_iconst (v := nI 0) hx hb dX4_rounds_76 (by decide) ?_
          refine vp_callSi (W.runS (As := [.int (nI 1), .int (nI 0)]) (rest := [.ref (q 1)]) ⟨hx, hb, hml, hown, hts⟩ (k_X4_of3 l 1 0) (va_cwS 2 hts gX4_rounds_X4_of3 rfl rfl rfl hd_X4_of3 ⟨Nat.le_of_ble_eq_true rfl, Nat.le_of_ble_eq_true rfl⟩) ⟨pm_no_blind, pm_no_pre⟩ rfl rfl hl.1 rfl (lv_room (Nat.le_of_ble_eq_true rfl)) dX4_rounds_77 ⟨Nat.le_of_ble_eq_true rfl, Nat.le_of_ble_eq_true rfl⟩) (fun r52 h53 => ?_)
          obtain rfl : r52 = nI (150 + 4 * 1 + 0) := h53
          refine lv_iload_n hx hb dX4_rounds_80 rfl (lv_at hl 0 rfl) ?_
          refine lv_bipush (v := nI 20) hx hb dX4_rounds_81 (by decide) ?_
          refine kx_icmp_le (tgt := 91) hx hb (by omega) (by decide) dX4_rounds_83 (by decide) (fun c54 => ?_) (fun c54 => ?_)
          · skip
            refine lv_iload_n hx hb dX4_rounds_91 rfl (lv_at hl 0 rfl) ?_
            refine kx_iast (ws' := pm_mo y q (pm_st (pm_mid2 S 1) 5 1 ((S 5 1) + 2)) gp gs kn ln sv pd) hx hb hK hP hD hS 1 0 rfl rfl (by omega) (by decide) (pm_ms_we (e := 1) 0 (by decide) (by omega)) rfl dX4_rounds_92 (fun H locs hP hD hS => ?_)
            have hP : va_P D vwCl (pm_mo y q (pm_mid2 S 2) gp gs kn ln sv pd) H := by rw [pm_mid2_s S 1]; (first | rw [if_pos (by omega)] | rw [if_neg (by omega)]); exact hP
            have hD : va_D (pm_ad (pm_mo y q S gp gs kn ln sv pd)) (pm_mo y q (pm_mid2 S 2) gp gs kn ln sv pd) := by rw [pm_mid2_s S 1]; (first | rw [if_pos (by omega)] | rw [if_neg (by omega)]); exact hD
            refine lv_iinc (v := nI 2) (lv' := [(2, .int (nI 2)), (3, .int (nI ((S 5 1) + 2))), (0, .ref (q 0)), (1, .int (nI (pm_rct S 30)))]) hx hb dX4_rounds_93 hl (k := 1) rfl (by decide) (by decide) rfl (fun ls hl => ?_)
            refine lv_goto (tgt := 53) hx hb dX4_rounds_96 (by decide) ?_
            refine lv_iload_n hx hb dX4_rounds_53 rfl (lv_at hl 0 rfl) ?_
            refine lv_iconst (v := nI 3) hx hb dX4_rounds_54 (by decide) ?_
            refine lv_icmp_ge (tgt := 99) hx hb dX4_rounds_55 (by decide) (fun c55 => absurd c55 (by decide)) (fun _ => ?_)
            refine lv_aload_n hx hb dX4_rounds_58 rfl (lv_at hl 2 rfl) ?_
            refine va_get (D := D) (ci := 4) (v := .ref (q 1)) (C := RX4) (T := TX4) (N := 7) hx hb hts hin4 hown hK hP 0 rfl rfl 0 (by decide) (hts (.fieldLink RX4 7 "ProofMarksModel" "s" "[I") (List.mem_of_getElem? (i := 1) rfl)) (fun _ h9 => h9) rfl dX4_rounds_59 ?_
            refine lv_iload_n hx hb dX4_rounds_62 rfl (lv_at hl 0 rfl) ?_
            refine lv_iconst (v := nI 0) hx hb dX4_rounds_63 (by decide) ?_
            refine vp_callSi (W.runS (As := [.int (nI 2), .int (nI 0)]) (rest := [.ref (q 1)]) ⟨hx, hb, hml, hown, hts⟩ (k_X4_of3 l 2 0) (va_cwS 2 hts gX4_rounds_X4_of3 rfl rfl rfl hd_X4_of3 ⟨Nat.le_of_ble_eq_true rfl, Nat.le_of_ble_eq_true rfl⟩) ⟨pm_no_blind, pm_no_pre⟩ rfl rfl hl.1 rfl (lv_room (Nat.le_of_ble_eq_true rfl)) dX4_rounds_64 ⟨Nat.le_of_ble_eq_true rfl, Nat.le_of_ble_eq_true rfl⟩) (fun r56 h57 => ?_)
            obtain rfl : r56 = nI (150 + 4 * 2 + 0) := h57
            refine kx_iald (v := nI ((pm_mid2 S 2) 5 2)) hx hb hK hP 1 0 rfl rfl (by omega) (by decide) (pm_ms_e (S := (pm_mid2 S 2)) (e := 2) 0 (by decide) (by omega)) dX4_rounds_67 ?_
            refine lv_topi (fun x58 e59 => ?_)
            obtain rfl : x58 = nI (S 5 2) := e59.trans (congrArg nI (pm_pts_o (S 5) 2 2 (Nat.le_refl 2)))
            have := hI.pts 2 (by decide)
            refine lv_iconst (v := nI 2) hx hb dX4_rounds_68 (by decide) ?_
            refine kx_iadd hx hb dX4_rounds_69 ?_
            refine lv_istore_n (lv' := [(3, .int (nI ((S 5 2) + 2))), (2, .int (nI 2)), (0, .ref (q 0)), (1, .int (nI (pm_rct S 30)))]) hx hb dX4_rounds_70 rfl hl (by decide) rfl (fun ls hl => ?_)
            refine lv_aload_n hx hb dX4_rounds_71 rfl (lv_at hl 2 rfl) ?_
            refine va_get (D := D) (ci := 4) (v := .ref (q 1)) (C := RX4) (T := TX4) (N := 7) hx hb hts hin4 hown hK hP 0 rfl rfl 0 (by decide) (hts (.fieldLink RX4 7 "ProofMarksModel" "s" "[I") (List.mem_of_getElem? (i := 1) rfl)) (fun _ h9 => h9) rfl dX4_rounds_72 ?_
            refine lv_iload_n hx hb dX4_rounds_75 rfl (lv_at hl 1 rfl) ?_
            refine lv_iconst (v := nI 0) hx hb dX4_rounds_76 (by decide) ?_
            refine vp_callSi (W.runS (As := [.int (nI 2), .int (nI 0)]) (rest := [.ref (q 1)]) ⟨hx, hb, hml, hown, hts⟩ (k_X4_of3 l 2 0) (va_cwS 2 hts gX4_rounds_X4_of3 rfl rfl rfl hd_X4_of3 ⟨Nat.le_of_ble_eq_true rfl, Nat.le_of_ble_eq_true rfl⟩) ⟨pm_no_blind, pm_no_pre⟩ rfl rfl hl.1 rfl (lv_room (Nat.le_of_ble_eq_true rfl)) dX4_rounds_77 ⟨Nat.le_of_ble_eq_true rfl, Nat.le_of_ble_eq_true rfl⟩) (fun r60 h61 => ?_)
            obtain rfl : r60 = nI (150 + 4 * 2 + 0) := h61
            refine lv_iload_n hx hb dX4_rounds_80 rfl (lv_at hl 0 rfl) ?_
            refine lv_bipush (v := nI 20) hx hb dX4_rounds_81 (by decide) ?_
            refine kx_icmp_le (tgt := 91) hx hb (by omega) (by decide) dX4_rounds_83 (by decide) (fun c62 => ?_) (fun c62 => ?_)
            · skip
              refine lv_iload_n hx hb dX4_rounds_91 rfl (lv_at hl 0 rfl) ?_
              refine kx_iast (ws' := pm_mo y q (pm_st (pm_mid2 S 2) 5 2 ((S 5 2) + 2)) gp gs kn ln sv pd) hx hb hK hP hD hS 1 0 rfl rfl (by omega) (by decide) (pm_ms_we (e := 2) 0 (by decide) (by omega)) rfl dX4_rounds_92 (fun H locs hP hD hS => ?_)
              have hP : va_P D vwCl (pm_mo y q (pm_mid2 S 3) gp gs kn ln sv pd) H := by rw [pm_mid2_s S 2]; (first | rw [if_pos (by omega)] | rw [if_neg (by omega)]); exact hP
              have hD : va_D (pm_ad (pm_mo y q S gp gs kn ln sv pd)) (pm_mo y q (pm_mid2 S 3) gp gs kn ln sv pd) := by rw [pm_mid2_s S 2]; (first | rw [if_pos (by omega)] | rw [if_neg (by omega)]); exact hD
              refine lv_iinc (v := nI 3) (lv' := [(2, .int (nI 3)), (3, .int (nI ((S 5 2) + 2))), (0, .ref (q 0)), (1, .int (nI (pm_rct S 30)))]) hx hb dX4_rounds_93 hl (k := 1) rfl (by decide) (by decide) rfl (fun ls hl => ?_)
              refine lv_goto (tgt := 53) hx hb dX4_rounds_96 (by decide) ?_
              refine lv_iload_n hx hb dX4_rounds_53 rfl (lv_at hl 0 rfl) ?_
              refine lv_iconst (v := nI 3) hx hb dX4_rounds_54 (by decide) ?_
              refine lv_icmp_ge (tgt := 99) hx hb dX4_rounds_55 (by decide) (fun _ => ?_) (fun c63 => (c63 (by decide)).elim)
              refine lv_aload_n hx hb dX4_rounds_99 rfl (lv_at hl 2 rfl) ?_
              refine va_get (D := D) (ci := 4) (v := .ref (q 1)) (C := RX4) (T := TX4) (N := 7) hx hb hts hin4 hown hK hP 0 rfl rfl 0 (by decide) (hts (.fieldLink RX4 7 "ProofMarksModel" "s" "[I") (List.mem_of_getElem? (i := 1) rfl)) (fun _ h9 => h9) rfl dX4_rounds_100 ?_
              refine lv_sipush (v := nI 166) hx hb dX4_rounds_103 (by decide) ?_
              refine lv_dup2_11 hx hb dX4_rounds_106 rfl rfl ?_
              refine kx_iald (v := nI ((pm_mid2 S 3) 10 0)) hx hb hK hP 1 0 rfl rfl (by omega) (by decide) (pm_ms_r (S := (pm_mid2 S 3)) (k := 0) (by decide)) dX4_rounds_107 ?_
              refine lv_topi (fun x64 e65 => ?_)
              obtain rfl : x64 = nI (S 10 0) := e65.trans (congrArg nI (pm_rds_9 S (by decide) 0 30))
              refine lv_iconst (v := nI 1) hx hb dX4_rounds_108 (by decide) ?_
              refine kx_iadd hx hb dX4_rounds_109 ?_
              refine kx_iast (ws' := pm_mo y q (pm_st (pm_mid2 S 3) 10 0 ((S 10 0) + 1)) gp gs kn ln sv pd) hx hb hK hP hD hS 1 0 rfl rfl (by omega) (by decide) (pm_ms_wr (k := 0) (by decide)) rfl dX4_rounds_110 (fun H locs hP hD hS => ?_)
              refine lv_iload_n hx hb dX4_rounds_111 rfl (lv_at hl 3 rfl) ?_
              exact W.iret hx hb hr (fun t ht _ => ⟨⟨_, (), rfl, rfl, (by show va_P D vwCl (pm_mo y q (pm_st (pm_mid2 S 3) 10 0 (S 10 0 + 1)) gp gs kn ln sv pd) t.heap; rw [ht]; exact hP)⟩, hS.F ht⟩) hS.2.2 dX4_rounds_112
            · skip
              refine lv_bipush (v := nI 20) hx hb dX4_rounds_86 (by decide) ?_
              refine lv_goto (tgt := 92) hx hb dX4_rounds_88 (by decide) ?_
              refine kx_iast (ws' := pm_mo y q (pm_st (pm_mid2 S 2) 5 2 20) gp gs kn ln sv pd) hx hb hK hP hD hS 1 0 rfl rfl (by omega) (by decide) (pm_ms_we (e := 2) 0 (by decide) (by omega)) rfl dX4_rounds_92 (fun H locs hP hD hS => ?_)
              have hP : va_P D vwCl (pm_mo y q (pm_mid2 S 3) gp gs kn ln sv pd) H := by rw [pm_mid2_s S 2]; (first | rw [if_pos (by omega)] | rw [if_neg (by omega)]); exact hP
              have hD : va_D (pm_ad (pm_mo y q S gp gs kn ln sv pd)) (pm_mo y q (pm_mid2 S 3) gp gs kn ln sv pd) := by rw [pm_mid2_s S 2]; (first | rw [if_pos (by omega)] | rw [if_neg (by omega)]); exact hD
              refine lv_iinc (v := nI 3) (lv' := [(2, .int (nI 3)), (3, .int (nI ((S 5 2) + 2))), (0, .ref (q 0)), (1, .int (nI (pm_rct S 30)))]) hx hb dX4_rounds_93 hl (k := 1) rfl (by decide) (by decide) rfl (fun ls hl => ?_)
              refine lv_goto (tgt := 53) hx hb dX4_rounds_96 (by decide) ?_
              refine lv_iload_n hx hb dX4_rounds_53 rfl (lv_at hl 0 rfl) ?_
              refine lv_iconst (v := nI 3) hx hb dX4_rounds_54 (by decide) ?_
              refine lv_icmp_ge (tgt := 99) hx hb dX4_rounds_55 (by decide) (fun _ => ?_) (fun c66 => (c66 (by decide)).elim)
              refine lv_aload_n hx hb dX4_rounds_99 rfl (lv_at hl 2 rfl) ?_
              refine va_get (D := D) (ci := 4) (v := .ref (q 1)) (C := RX4) (T := TX4) (N := 7) hx hb hts hin4 hown hK hP 0 rfl rfl 0 (by decide) (hts (.fieldLink RX4 7 "ProofMarksModel" "s" "[I") (List.mem_of_getElem? (i := 1) rfl)) (fun _ h9 => h9) rfl dX4_rounds_100 ?_
              refine lv_sipush (v := nI 166) hx hb dX4_rounds_103 (by decide) ?_
              refine lv_dup2_11 hx hb dX4_rounds_106 rfl rfl ?_
              refine kx_iald (v := nI ((pm_mid2 S 3) 10 0)) hx hb hK hP 1 0 rfl rfl (by omega) (by decide) (pm_ms_r (S := (pm_mid2 S 3)) (k := 0) (by decide)) dX4_rounds_107 ?_
              refine lv_topi (fun x67 e68 => ?_)
              obtain rfl : x67 = nI (S 10 0) := e68.trans (congrArg nI (pm_rds_9 S (by decide) 0 30))
              refine lv_iconst (v := nI 1) hx hb dX4_rounds_108 (by decide) ?_
              refine kx_iadd hx hb dX4_rounds_109 ?_
              refine kx_iast (ws' := pm_mo y q (pm_st (pm_mid2 S 3) 10 0 ((S 10 0) + 1)) gp gs kn ln sv pd) hx hb hK hP hD hS 1 0 rfl rfl (by omega) (by decide) (pm_ms_wr (k := 0) (by decide)) rfl dX4_rounds_110 (fun H locs hP hD hS => ?_)
              refine lv_iload_n hx hb dX4_rounds_111 rfl (lv_at hl 3 rfl) ?_
              exact W.iret hx hb hr (fun t ht _ => ⟨⟨_, (), rfl, rfl, (by show va_P D vwCl (pm_mo y q (pm_st (pm_mid2 S 3) 10 0 (S 10 0 + 1)) gp gs kn ln sv pd) t.heap; rw [ht]; exact hP)⟩, hS.F ht⟩) hS.2.2 dX4_rounds_112
          · skip
            refine lv_bipush (v := nI 20) hx hb dX4_rounds_86 (by decide) ?_
            refine lv_goto (tgt := 92) hx hb dX4_rounds_88 (by decide) ?_
            refine kx_iast (ws' := pm_mo y q (pm_st (pm_mid2 S 1) 5 1 20) gp gs kn ln sv pd) hx hb hK hP hD hS 1 0 rfl rfl (by omega) (by decide) (pm_ms_we (e := 1) 0 (by decide) (by omega)) rfl dX4_rounds_92 (fun H locs hP hD hS => ?_)
            have hP : va_P D vwCl (pm_mo y q (pm_mid2 S 2) gp gs kn ln sv pd) H := by rw [pm_mid2_s S 1]; (first | rw [if_pos (by omega)] | rw [if_neg (by omega)]); exact hP
            have hD : va_D (pm_ad (pm_mo y q S gp gs kn ln sv pd)) (pm_mo y q (pm_mid2 S 2) gp gs kn ln sv pd) := by rw [pm_mid2_s S 1]; (first | rw [if_pos (by omega)] | rw [if_neg (by omega)]); exact hD
            refine lv_iinc (v := nI 2) (lv' := [(2, .int (nI 2)), (3, .int (nI ((S 5 1) + 2))), (0, .ref (q 0)), (1, .int (nI (pm_rct S 30)))]) hx hb dX4_rounds_93 hl (k := 1) rfl (by decide) (by decide) rfl (fun ls hl => ?_)
            refine lv_goto (tgt := 53) hx hb dX4_rounds_96 (by decide) ?_
            refine lv_iload_n hx hb dX4_rounds_53 rfl (lv_at hl 0 rfl) ?_
            refine lv_iconst (v := nI 3) hx hb dX4_rounds_54 (by decide) ?_
            refine lv_icmp_ge (tgt := 99) hx hb dX4_rounds_55 (by decide) (fun c69 => absurd c69 (by decide)) (fun _ => ?_)
            refine lv_aload_n hx hb dX4_rounds_58 rfl (lv_at hl 2 rfl) ?_
            refine va_get (D := D) (ci := 4) (v := .ref (q 1)) (C := RX4) (T := TX4) (N := 7) hx hb hts hin4 hown hK hP 0 rfl rfl 0 (by decide) (hts (.fieldLink RX4 7 "ProofMarksModel" "s" "[I") (List.mem_of_getElem? (i := 1) rfl)) (fun _ h9 => h9) rfl dX4_rounds_59 ?_
            refine lv_iload_n hx hb dX4_rounds_62 rfl (lv_at hl 0 rfl) ?_
            refine lv_iconst (v := nI 0) hx hb dX4_rounds_63 (by decide) ?_
            refine vp_callSi (W.runS (As := [.int (nI 2), .int (nI 0)]) (rest := [.ref (q 1)]) ⟨hx, hb, hml, hown, hts⟩ (k_X4_of3 l 2 0) (va_cwS 2 hts gX4_rounds_X4_of3 rfl rfl rfl hd_X4_of3 ⟨Nat.le_of_ble_eq_true rfl, Nat.le_of_ble_eq_true rfl⟩) ⟨pm_no_blind, pm_no_pre⟩ rfl rfl hl.1 rfl (lv_room (Nat.le_of_ble_eq_true rfl)) dX4_rounds_64 ⟨Nat.le_of_ble_eq_true rfl, Nat.le_of_ble_eq_true rfl⟩) (fun r70 h71 => ?_)
            obtain rfl : r70 = nI (150 + 4 * 2 + 0) := h71
            refine kx_iald (v := nI ((pm_mid2 S 2) 5 2)) hx hb hK hP 1 0 rfl rfl (by omega) (by decide) (pm_ms_e (S := (pm_mid2 S 2)) (e := 2) 0 (by decide) (by omega)) dX4_rounds_67 ?_
            refine lv_topi (fun x72 e73 => ?_)
            obtain rfl : x72 = nI (S 5 2) := e73.trans (congrArg nI (pm_pts_o (S 5) 2 2 (Nat.le_refl 2)))
            have := hI.pts 2 (by decide)
            refine lv_iconst (v := nI 2) hx hb dX4_rounds_68 (by decide) ?_
            refine kx_iadd hx hb dX4_rounds_69 ?_
            refine lv_istore_n (lv' := [(3, .int (nI ((S 5 2) + 2))), (2, .int (nI 2)), (0, .ref (q 0)), (1, .int (nI (pm_rct S 30)))]) hx hb dX4_rounds_70 rfl hl (by decide) rfl (fun ls hl => ?_)
            refine lv_aload_n hx hb dX4_rounds_71 rfl (lv_at hl 2 rfl) ?_
            refine va_get (D := D) (ci := 4) (v := .ref (q 1)) (C := RX4) (T := TX4) (N := 7) hx hb hts hin4 hown hK hP 0 rfl rfl 0 (by decide) (hts (.fieldLink RX4 7 "ProofMarksModel" "s" "[I") (List.mem_of_getElem? (i := 1) rfl)) (fun _ h9 => h9) rfl dX4_rounds_72 ?_
            refine lv_iload_n hx hb dX4_rounds_75 rfl (lv_at hl 1 rfl) ?_
            refine lv_iconst (v := nI 0) hx hb dX4_rounds_76 (by decide) ?_
            refine vp_callSi (W.runS (As := [.int (nI 2), .int (nI 0)]) (rest := [.ref (q 1)]) ⟨hx, hb, hml, hown, hts⟩ (k_X4_of3 l 2 0) (va_cwS 2 hts gX4_rounds_X4_of3 rfl rfl rfl hd_X4_of3 ⟨Nat.le_of_ble_eq_true rfl, Nat.le_of_ble_eq_true rfl⟩) ⟨pm_no_blind, pm_no_pre⟩ rfl rfl hl.1 rfl (lv_room (Nat.le_of_ble_eq_true rfl)) dX4_rounds_77 ⟨Nat.le_of_ble_eq_true rfl, Nat.le_of_ble_eq_true rfl⟩) (fun r74 h75 => ?_)
            obtain rfl : r74 = nI (150 + 4 * 2 + 0) := h75
            refine lv_iload_n hx hb dX4_rounds_80 rfl (lv_at hl 0 rfl) ?_
            refine lv_bipush (v := nI 20) hx hb dX4_rounds_81 (by decide) ?_
            refine kx_icmp_le (tgt := 91) hx hb (by omega) (by decide) dX4_rounds_83 (by decide) (fun c76 => ?_) (fun c76 => ?_)
            · skip
              refine lv_iload_n hx hb dX4_rounds_91 rfl (lv_at hl 0 rfl) ?_
              refine kx_iast (ws' := pm_mo y q (pm_st (pm_mid2 S 2) 5 2 ((S 5 2) + 2)) gp gs kn ln sv pd) hx hb hK hP hD hS 1 0 rfl rfl (by omega) (by decide) (pm_ms_we (e := 2) 0 (by decide) (by omega)) rfl dX4_rounds_92 (fun H locs hP hD hS => ?_)
              have hP : va_P D vwCl (pm_mo y q (pm_mid2 S 3) gp gs kn ln sv pd) H := by rw [pm_mid2_s S 2]; (first | rw [if_pos (by omega)] | rw [if_neg (by omega)]); exact hP
              have hD : va_D (pm_ad (pm_mo y q S gp gs kn ln sv pd)) (pm_mo y q (pm_mid2 S 3) gp gs kn ln sv pd) := by rw [pm_mid2_s S 2]; (first | rw [if_pos (by omega)] | rw [if_neg (by omega)]); exact hD
              refine lv_iinc (v := nI 3) (lv' := [(2, .int (nI 3)), (3, .int (nI ((S 5 2) + 2))), (0, .ref (q 0)), (1, .int (nI (pm_rct S 30)))]) hx hb dX4_rounds_93 hl (k := 1) rfl (by decide) (by decide) rfl (fun ls hl => ?_)
              refine lv_goto (tgt := 53) hx hb dX4_rounds_96 (by decide) ?_
              refine lv_iload_n hx hb dX4_rounds_53 rfl (lv_at hl 0 rfl) ?_
              refine lv_iconst (v := nI 3) hx hb dX4_rounds_54 (by decide) ?_
              refine lv_icmp_ge (tgt := 99) hx hb dX4_rounds_55 (by decide) (fun _ => ?_) (fun c77 => (c77 (by decide)).elim)
              refine lv_aload_n hx hb dX4_rounds_99 rfl (lv_at hl 2 rfl) ?_
              refine va_get (D := D) (ci := 4) (v := .ref (q 1)) (C := RX4) (T := TX4) (N := 7) hx hb hts hin4 hown hK hP 0 rfl rfl 0 (by decide) (hts (.fieldLink RX4 7 "ProofMarksModel" "s" "[I") (List.mem_of_getElem? (i := 1) rfl)) (fun _ h9 => h9) rfl dX4_rounds_100 ?_
              refine lv_sipush (v := nI 166) hx hb dX4_rounds_103 (by decide) ?_
              refine lv_dup2_11 hx hb dX4_rounds_106 rfl rfl ?_
              refine kx_iald (v := nI ((pm_mid2 S 3) 10 0)) hx hb hK hP 1 0 rfl rfl (by omega) (by decide) (pm_ms_r (S := (pm_mid2 S 3)) (k := 0) (by decide)) dX4_rounds_107 ?_
              refine lv_topi (fun x78 e79 => ?_)
              obtain rfl : x78 = nI (S 10 0) := e79.trans (congrArg nI (pm_rds_9 S (by decide) 0 30))
              refine lv_iconst (v := nI 1) hx hb dX4_rounds_108 (by decide) ?_
              refine kx_iadd hx hb dX4_rounds_109 ?_
              refine kx_iast (ws' := pm_mo y q (pm_st (pm_mid2 S 3) 10 0 ((S 10 0) + 1)) gp gs kn ln sv pd) hx hb hK hP hD hS 1 0 rfl rfl (by omega) (by decide) (pm_ms_wr (k := 0) (by decide)) rfl dX4_rounds_110 (fun H locs hP hD hS => ?_)
              refine lv_iload_n hx hb dX4_rounds_111 rfl (lv_at hl 3 rfl) ?_
              exact W.iret hx hb hr (fun t ht _ => ⟨⟨_, (), rfl, rfl, (by show va_P D vwCl (pm_mo y q (pm_st (pm_mid2 S 3) 10 0 (S 10 0 + 1)) gp gs kn ln sv pd) t.heap; rw [ht]; exact hP)⟩, hS.F ht⟩) hS.2.2 dX4_rounds_112
            · skip
              refine lv_bipush (v := nI 20) hx hb dX4_rounds_86 (by decide) ?_
              refine lv_goto (tgt := 92) hx hb dX4_rounds_88 (by decide) ?_
              refine kx_iast (ws' := pm_mo y q (pm_st (pm_mid2 S 2) 5 2 20) gp gs kn ln sv pd) hx hb hK hP hD hS 1 0 rfl rfl (by omega) (by decide) (pm_ms_we (e := 2) 0 (by decide) (by omega)) rfl dX4_rounds_92 (fun H locs hP hD hS => ?_)
              have hP : va_P D vwCl (pm_mo y q (pm_mid2 S 3) gp gs kn ln sv pd) H := by rw [pm_mid2_s S 2]; (first | rw [if_pos (by omega)] | rw [if_neg (by omega)]); exact hP
              have hD : va_D (pm_ad (pm_mo y q S gp gs kn ln sv pd)) (pm_mo y q (pm_mid2 S 3) gp gs kn ln sv pd) := by rw [pm_mid2_s S 2]; (first | rw [if_pos (by omega)] | rw [if_neg (by omega)]); exact hD
              refine lv_iinc (v := nI 3) (lv' := [(2, .int (nI 3)), (3, .int (nI ((S 5 2) + 2))), (0, .ref (q 0)), (1, .int (nI (pm_rct S 30)))]) hx hb dX4_rounds_93 hl (k := 1) rfl (by decide) (by decide) rfl (fun ls hl => ?_)
              refine lv_goto (tgt := 53) hx hb dX4_rounds_96 (by decide) ?_
              refine lv_iload_n hx hb dX4_rounds_53 rfl (lv_at hl 0 rfl) ?_
              refine lv_iconst (v := nI 3) hx hb dX4_rounds_54 (by decide) ?_
              refine lv_icmp_ge (tgt := 99) hx hb dX4_rounds_55 (by decide) (fun _ => ?_) (fun c80 => (c80 (by decide)).elim)
              refine lv_aload_n hx hb dX4_rounds_99 rfl (lv_at hl 2 rfl) ?_
              refine va_get (D := D) (ci := 4) (v := .ref (q 1)) (C := RX4) (T := TX4) (N := 7) hx hb hts hin4 hown hK hP 0 rfl rfl 0 (by decide) (hts (.fieldLink RX4 7 "ProofMarksModel" "s" "[I") (List.mem_of_getElem? (i := 1) rfl)) (fun _ h9 => h9) rfl dX4_rounds_100 ?_
              refine lv_sipush (v := nI 166) hx hb dX4_rounds_103 (by decide) ?_
              refine lv_dup2_11 hx hb dX4_rounds_106 rfl rfl ?_
              refine kx_iald (v := nI ((pm_mid2 S 3) 10 0)) hx hb hK hP 1 0 rfl rfl (by omega) (by decide) (pm_ms_r (S := (pm_mid2 S 3)) (k := 0) (by decide)) dX4_rounds_107 ?_
              refine lv_topi (fun x81 e82 => ?_)
              obtain rfl : x81 = nI (S 10 0) := e82.trans (congrArg nI (pm_rds_9 S (by decide) 0 30))
              refine lv_iconst (v := nI 1) hx hb dX4_rounds_108 (by decide) ?_
              refine kx_iadd hx hb dX4_rounds_109 ?_
              refine kx_iast (ws' := pm_mo y q (pm_st (pm_mid2 S 3) 10 0 ((S 10 0) + 1)) gp gs kn ln sv pd) hx hb hK hP hD hS 1 0 rfl rfl (by omega) (by decide) (pm_ms_wr (k := 0) (by decide)) rfl dX4_rounds_110 (fun H locs hP hD hS => ?_)
              refine lv_iload_n hx hb dX4_rounds_111 rfl (lv_at hl 3 rfl) ?_
              exact W.iret hx hb hr (fun t ht _ => ⟨⟨_, (), rfl, rfl, (by show va_P D vwCl (pm_mo y q (pm_st (pm_mid2 S 3) 10 0 (S 10 0 + 1)) gp gs kn ln sv pd) t.heap; rw [ht]; exact hP)⟩, hS.F ht⟩) hS.2.2 dX4_rounds_112
      · skip
        refine lv_aload_n hx hb dX4_rounds_10 rfl (lv_at hl 0 rfl) ?_
        refine lv_iload_n hx hb dX4_rounds_11 rfl (lv_at hl 2 rfl) ?_
        refine vp_callSi (W.runV (As := [.int (nI i)]) (rest := []) ⟨hx, hb, hml, hown, hts⟩ (k_X4_isOpen l D y q (pm_rds S i) gp gs kn ln sv pd i (by rw [pm_rds_o S (by decide) i i (Nat.le_refl i)]; exact hI.how i (by omega)) (by omega)) (cwV 1 hts gX4_rounds_X4_isOpen rfl rfl rfl hd_X4_isOpen ⟨Nat.le_of_ble_eq_true rfl, Nat.le_of_ble_eq_true rfl⟩) ⟨pm_ro_blind, va_recv hK hP (ci := 4) (q0 := 0) rfl rfl, pm_ro_pre hP hK⟩ rfl rfl hl.1 rfl (lv_room (Nat.le_of_ble_eq_true rfl)) dX4_rounds_12 ⟨Nat.le_of_ble_eq_true rfl, Nat.le_of_ble_eq_true rfl⟩) (fun r83 h84 => ?_)
        rcases (show (((pm_rds S i) 0 i = 0) ∧ r83 = nI 1) ∨ (¬ ((pm_rds S i) 0 i = 0) ∧ r83 = nI 0) from h84) with ⟨hp85, rfl⟩ | ⟨hp85, rfl⟩
        · rw [pm_rds_o S (by decide) i i (Nat.le_refl i)] at hp85
          refine lv_if_eq (tgt := 45) hx hb dX4_rounds_15 (by decide) (fun c86 => absurd c86 (by decide)) (fun _ => ?_)
          refine lv_aload_n hx hb dX4_rounds_18 rfl (lv_at hl 0 rfl) ?_
          refine lv_iload_n hx hb dX4_rounds_19 rfl (lv_at hl 2 rfl) ?_
          refine va_callv (va_runV (As := [.int (nI i)]) (rest := []) ⟨hx, hb, hml, hown, hts⟩ (k_X4_judges l D y q (pm_rds S i) gp gs kn ln sv pd i (by rw [pm_rds_o S (by decide) i i (Nat.le_refl i)]; exact hI.okm i (by omega)) (by rw [pm_rds_9 S (by decide)]; exact hI.set9 0 (by decide)) (by rw [pm_rds_9 S (by decide)]; exact hI.set9 3 (by decide)) (by rw [pm_rds_o S (by decide) i i (Nat.le_refl i)]; exact Nat.le_trans (hI.dull i (by omega)) hI.rnd) (by rw [pm_rds_9 S (by decide)]; exact hI.rnd) (by omega)) (cwV 1 hts gX4_rounds_X4_judges rfl rfl rfl hd_X4_judges ⟨Nat.le_of_ble_eq_true rfl, Nat.le_of_ble_eq_true rfl⟩) ⟨pm_wr_blind, va_recv hK hP (ci := 4) (q0 := 0) rfl rfl, pm_wr_pre hP hK hD⟩ rfl rfl hl.1 rfl (lv_room (Nat.le_of_ble_eq_true rfl)) dX4_rounds_20 ⟨Nat.le_of_ble_eq_true rfl, Nat.le_of_ble_eq_true rfl⟩) hS (fun q _ h9 => (pm_ad_all hD) q h9) (pm_ad_all hD) (fun u93 t89 H1 locs ht90 _ h88 hB91 _ hk92 hS => ?_)
          obtain ⟨hP, hD⟩ := pm_all (D := D) (cl := vwCl) (H1 := H1) hD (w' := pm_mo y q (pm_jdg (pm_rds S i) i) gp gs kn ln sv pd) (by rw [← ht90]; exact hB91) rfl
          generalize H1 = H at hP hS ⊢
          refine lv_iload_n hx hb dX4_rounds_23 rfl (lv_at hl 1 rfl) ?_
          refine lv_aload_n hx hb dX4_rounds_24 rfl (lv_at hl 0 rfl) ?_
          refine va_get (D := D) (ci := 4) (v := .ref (q 1)) (C := RX4) (T := TX4) (N := 7) hx hb hts hin4 hown hK hP 0 rfl rfl 0 (by decide) (hts (.fieldLink RX4 7 "ProofMarksModel" "s" "[I") (List.mem_of_getElem? (i := 1) rfl)) (fun _ h9 => h9) rfl dX4_rounds_25 ?_
          refine lv_iload_n hx hb dX4_rounds_28 rfl (lv_at hl 2 rfl) ?_
          refine lv_iconst (v := nI 0) hx hb dX4_rounds_29 (by decide) ?_
          refine vp_callSi (W.runS (As := [.int (nI i), .int (nI 0)]) (rest := [.ref (q 1), .int (nI (pm_rct S i))]) ⟨hx, hb, hml, hown, hts⟩ (k_X4_at l i 0) (va_cwS 2 hts gX4_rounds_X4_at rfl rfl rfl hd_X4_at ⟨Nat.le_of_ble_eq_true rfl, Nat.le_of_ble_eq_true rfl⟩) ⟨pm_no_blind, pm_no_pre⟩ rfl rfl hl.1 rfl (lv_room (Nat.le_of_ble_eq_true rfl)) dX4_rounds_30 ⟨Nat.le_of_ble_eq_true rfl, Nat.le_of_ble_eq_true rfl⟩) (fun r94 h95 => ?_)
          obtain rfl : r94 = nI (5 * i + 0) := h95
          refine kx_iald (v := nI ((pm_jdg (pm_rds S i) i) 0 i)) hx hb hK hP 1 0 rfl rfl (by omega) (by decide) (pm_ms_f (S := (pm_jdg (pm_rds S i) i)) (f := i) 0 (by decide) (by decide) (by omega)) dX4_rounds_33 ?_
          refine lv_topi (fun x96 e97 => ?_)
          obtain rfl : x96 = nI (pm_aft S i) := e97.trans ((congrArg nI (pm_jdg_h.trans (pm_aft_r S i))))
          have := pm_aft3 S i
          refine lv_iconst (v := nI 1) hx hb dX4_rounds_34 (by decide) ?_
          refine kx_icmp_ne (tgt := 42) hx hb (by omega) (by decide) dX4_rounds_35 (by decide) (fun c98 => ?_) (fun c98 => ?_)
          · skip
            refine lv_iconst (v := nI 0) hx hb dX4_rounds_42 (by decide) ?_
            refine kx_iadd hx hb dX4_rounds_43 ?_
            refine lv_istore_n (lv' := [(1, .int (nI ((pm_rct S i) + 0))), (0, .ref (q 0)), (2, .int (nI i))]) hx hb dX4_rounds_44 rfl hl (by decide) rfl (fun ls hl => ?_)
            have hP : va_P D vwCl (pm_mo y q (pm_rds S (i + 1)) gp gs kn ln sv pd) H := by rw [show pm_rds S (i + 1) = _ from by first | exact pm_rds_p (by assumption) | exact pm_rds_n (by assumption)]; exact hP
            have hD : va_D (pm_ad (pm_mo y q S gp gs kn ln sv pd)) (pm_mo y q (pm_rds S (i + 1)) gp gs kn ln sv pd) := by rw [show pm_rds S (i + 1) = _ from by first | exact pm_rds_p (by assumption) | exact pm_rds_n (by assumption)]; exact hD
            refine kx_iinc (a := i) (lv' := [(2, .int (nI (i + 1))), (1, .int (nI ((pm_rct S i) + 0))), (0, .ref (q 0))]) hx hb dX4_rounds_45 hl (k := 2) rfl (by decide) rfl (fun ls hl => ?_)
            refine lv_goto (tgt := 4) hx hb dX4_rounds_48 (by decide) ?_
            have q99 : (nI (pm_rct S (i + 1)) : Int32) = nI ((pm_rct S i) + 0) := (congrArg nI (by first | exact pm_rct_p (by assumption) (by assumption) | exact pm_rct_n (fun z => absurd z.1 (by assumption)) | exact pm_rct_n (fun z => absurd z.2 (by assumption))))
            exact ih1 (i + 1) ls H locs hP hD hS (by omega) (by omega) (by rw [q99]; exact lv_sub hl [2, 1, 0] rfl) 
          · skip
            refine lv_iconst (v := nI 1) hx hb dX4_rounds_38 (by decide) ?_
            refine lv_goto (tgt := 43) hx hb dX4_rounds_39 (by decide) ?_
            refine kx_iadd hx hb dX4_rounds_43 ?_
            refine lv_istore_n (lv' := [(1, .int (nI ((pm_rct S i) + 1))), (0, .ref (q 0)), (2, .int (nI i))]) hx hb dX4_rounds_44 rfl hl (by decide) rfl (fun ls hl => ?_)
            have hP : va_P D vwCl (pm_mo y q (pm_rds S (i + 1)) gp gs kn ln sv pd) H := by rw [show pm_rds S (i + 1) = _ from by first | exact pm_rds_p (by assumption) | exact pm_rds_n (by assumption)]; exact hP
            have hD : va_D (pm_ad (pm_mo y q S gp gs kn ln sv pd)) (pm_mo y q (pm_rds S (i + 1)) gp gs kn ln sv pd) := by rw [show pm_rds S (i + 1) = _ from by first | exact pm_rds_p (by assumption) | exact pm_rds_n (by assumption)]; exact hD
            refine kx_iinc (a := i) (lv' := [(2, .int (nI (i + 1))), (1, .int (nI ((pm_rct S i) + 1))), (0, .ref (q 0))]) hx hb dX4_rounds_45 hl (k := 2) rfl (by decide) rfl (fun ls hl => ?_)
            refine lv_goto (tgt := 4) hx hb dX4_rounds_48 (by decide) ?_
            have q100 : (nI (pm_rct S (i + 1)) : Int32) = nI ((pm_rct S i) + 1) := (congrArg nI (by first | exact pm_rct_p (by assumption) (by assumption) | exact pm_rct_n (fun z => absurd z.1 (by assumption)) | exact pm_rct_n (fun z => absurd z.2 (by assumption))))
            exact ih1 (i + 1) ls H locs hP hD hS (by omega) (by omega) (by rw [q100]; exact lv_sub hl [2, 1, 0] rfl) 
        · rw [pm_rds_o S (by decide) i i (Nat.le_refl i)] at hp85
          refine lv_if_eq (tgt := 45) hx hb dX4_rounds_15 (by decide) (fun _ => ?_) (fun c101 => (c101 (by decide)).elim)
          have hP : va_P D vwCl (pm_mo y q (pm_rds S (i + 1)) gp gs kn ln sv pd) H := by rw [show pm_rds S (i + 1) = _ from by first | exact pm_rds_p (by assumption) | exact pm_rds_n (by assumption)]; exact hP
          have hD : va_D (pm_ad (pm_mo y q S gp gs kn ln sv pd)) (pm_mo y q (pm_rds S (i + 1)) gp gs kn ln sv pd) := by rw [show pm_rds S (i + 1) = _ from by first | exact pm_rds_p (by assumption) | exact pm_rds_n (by assumption)]; exact hD
          refine kx_iinc (a := i) (lv' := [(2, .int (nI (i + 1))), (0, .ref (q 0)), (1, .int (nI (pm_rct S i)))]) hx hb dX4_rounds_45 hl (k := 2) rfl (by decide) rfl (fun ls hl => ?_)
          refine lv_goto (tgt := 4) hx hb dX4_rounds_48 (by decide) ?_
          have q102 : (nI (pm_rct S (i + 1)) : Int32) = nI (pm_rct S i) := (congrArg nI (by first | exact pm_rct_p (by assumption) (by assumption) | exact pm_rct_n (fun z => absurd z.1 (by assumption)) | exact pm_rct_n (fun z => absurd z.2 (by assumption))))
          exact ih1 (i + 1) ls H locs hP hD hS (by omega) (by omega) (by rw [q102]; exact lv_sub hl [1, 2, 0] rfl) 
  exact LOOP4 (30 + 1) 0 ls _ _ hP hD hS (by omega) (by omega) (lv_sub hl [2, 1, 0] rfl) 

theorem pm_rct_le (S : Nat → Nat → Nat) : ∀ n, pm_rct S n ≤ n
  | 0 => Nat.le_refl 0
  | n + 1 => by
    have := pm_rct_le S n
    rw [pm_rct]
    split <;> omega
set_option maxHeartbeats 4000000 in
set_option maxRecDepth 100000 in
theorem k_X4_whyNotMark (l : Launch) (D : va_G) (y : Nat → ClassId) (q : Nat → Nat) (S : Nat → Nat → Nat) (gp gs : Nat → Int32) (kn ln : Nat) (sv pd : Nat → Nat) (xe xf xm : Int32) (hI : pm_Inv S) : Met l yX4_whyNotMark wsX4_whyNotMark ({ frames := 3, cells := 0, slots := 0, locals := 67 } : Room) (pm_ro D (pm_ty y) [.ref (q 0), .int xe, .int xf, .int xm] (pm_mo y q S gp gs kn ln sv pd)) (vp_Si (fun r : Int32 => pm_WM S xe xf xm r)) 0 0 (fun _ => False) := by
  refine Met.ofW (cc := cX4_whyNotMark) (maxL := 5) (ret := (some .int)) (by decide) rfl ?_
  intro p e s m args below meth c s₁ B hml hpre
  obtain ⟨rfl, hP, hK⟩ := hpre
  have hx := B.exec
  have hb := B.bytes
  have hr := B.returns
  have hts := atoms_spec (ws := wsX4_whyNotMark) B.pre
  have hown : s.vm.findClass RX4 = some m.cls := findClass_of_methodNamed B.named
  have hlocks := B.notSynchronized
  have hin4 : ∀ w ∈ u_ws RX4 TX4 7, w ∈ wsX4_whyNotMark := fun w h => List.mem_cons_of_mem _ (List.mem_append_right _ h)
  have hP : va_P D vwCl (pm_mo y q S gp gs kn ln sv pd) s.heap := hP
  have hl := lv_entry ([.ref (q 0), .int xe, .int xf, .int xm]) (n := 5) (Nat.le_of_ble_eq_true rfl)
  rw [lg_entry_eq]
  generalize (lg_sl ([.ref (q 0), .int xe, .int xf, .int xm]) ++ List.replicate (5 - (lg_sl ([.ref (q 0), .int xe, .int xf, .int xm])).length) Slot.unset).toArray = ls at hl ⊢
  have hl : lv_has ls 5 [(0, .ref (q 0)), (1, .int xe), (2, .int xf), (3, .int xm)] := hl
  refine lv_iload_n hx hb dX4_whyNotMark_0 rfl (lv_at hl 1 rfl) ?_
  refine vp_callSi (W.runS (As := [.int xe]) (rest := []) ⟨hx, hb, hml, hown, hts⟩ (k_X4_isEditor l xe) (va_cwS 1 hts gX4_whyNotMark_X4_isEditor rfl rfl rfl hd_X4_isEditor ⟨Nat.le_of_ble_eq_true rfl, Nat.le_of_ble_eq_true rfl⟩) ⟨pm_no_blind, pm_no_pre⟩ rfl rfl hl.1 rfl (lv_room (Nat.le_of_ble_eq_true rfl)) dX4_whyNotMark_1 ⟨Nat.le_of_ble_eq_true rfl, Nat.le_of_ble_eq_true rfl⟩) (fun r1 h2 => ?_)
  rcases h2 with ⟨j3, hj3, ej3, rfl⟩ | ⟨hnj3, rfl⟩
  · subst ej3
    refine lv_if_eq (tgt := 14) hx hb dX4_whyNotMark_4 (by decide) (fun c4 => absurd c4 (by decide)) (fun _ => ?_)
    refine lv_iload_n hx hb dX4_whyNotMark_7 rfl (lv_at hl 2 rfl) ?_
    refine vp_callSi (W.runS (As := [.int xf]) (rest := []) ⟨hx, hb, hml, hown, hts⟩ (k_X4_isFrame l xf) (va_cwS 1 hts gX4_whyNotMark_X4_isFrame rfl rfl rfl hd_X4_isFrame ⟨Nat.le_of_ble_eq_true rfl, Nat.le_of_ble_eq_true rfl⟩) ⟨pm_no_blind, pm_no_pre⟩ rfl rfl hl.1 rfl (lv_room (Nat.le_of_ble_eq_true rfl)) dX4_whyNotMark_8 ⟨Nat.le_of_ble_eq_true rfl, Nat.le_of_ble_eq_true rfl⟩) (fun r5 h6 => ?_)
    rcases h6 with ⟨j7, hj7, ej7, rfl⟩ | ⟨hnj7, rfl⟩
    · subst ej7
      refine lv_if_ne (tgt := 16) hx hb dX4_whyNotMark_11 (by decide) (fun _ => ?_) (fun c8 => absurd c8 (by decide))
      rcases pm_cases xm (n := 3) (by decide) with hnj9 | ⟨j9, hj9, rfl⟩
      · skip
        refine lv_iload_n hx hb dX4_whyNotMark_16 rfl (lv_at hl 3 rfl) ?_
        refine lv_iconst (v := nI 0) hx hb dX4_whyNotMark_17 (by decide) ?_
        refine lv_iconst (v := nI 2) hx hb dX4_whyNotMark_18 (by decide) ?_
        refine vp_callSi (W.runS (As := [.int xm, .int (nI 0), .int (nI 2)]) (rest := []) ⟨hx, hb, hml, hown, hts⟩ (k_X4_in l xm (nI 0) (nI 2)) (va_cwS 3 hts gX4_whyNotMark_X4_in rfl rfl rfl hd_X4_in ⟨Nat.le_of_ble_eq_true rfl, Nat.le_of_ble_eq_true rfl⟩) ⟨pm_no_blind, pm_no_pre⟩ rfl rfl hl.1 rfl (lv_room (Nat.le_of_ble_eq_true rfl)) dX4_whyNotMark_19 ⟨Nat.le_of_ble_eq_true rfl, Nat.le_of_ble_eq_true rfl⟩) (fun r10 h11 => ?_)
        rcases (show ((nI 0 ≤ xm ∧ xm ≤ nI 2) ∧ r10 = nI 1) ∨ (¬ (nI 0 ≤ xm ∧ xm ≤ nI 2) ∧ r10 = nI 0) from h11) with ⟨hp12, rfl⟩ | ⟨hp12, rfl⟩
        · exact (pm_no2 (n := 2) (a := 0) hnj9 (by decide) (by decide) hp12).elim
        · skip
          refine lv_if_ne (tgt := 28) hx hb dX4_whyNotMark_22 (by decide) (fun c13 => (c13 (by decide)).elim) (fun _ => ?_)
          refine lv_bipush (v := (-2)) hx hb dX4_whyNotMark_25 (by decide) ?_
          have E : pm_aMark S (nI j3) (nI j7) xm = ((-2), S) := by simp only [pm_aMark, pm_ix_in hj3 (show (3 : Nat) < 2 ^ 31 by decide), pm_ix_in hj7 (show (30 : Nat) < 2 ^ 31 by decide), pm_ix_out hnj9] <;> ((repeat' split) <;> first | rfl | (exfalso; omega))
          exact W.iret hx hb hr (fun t ht _ => ⟨_, rfl, (Or.inr ⟨_, E, pm_neg2, rfl⟩), ht⟩) (fun _ h => absurd h List.not_mem_nil) dX4_whyNotMark_27
      · skip
        refine lv_iload_n hx hb dX4_whyNotMark_16 rfl (lv_at hl 3 rfl) ?_
        refine lv_iconst (v := nI 0) hx hb dX4_whyNotMark_17 (by decide) ?_
        refine lv_iconst (v := nI 2) hx hb dX4_whyNotMark_18 (by decide) ?_
        refine vp_callSi (W.runS (As := [.int (nI j9), .int (nI 0), .int (nI 2)]) (rest := []) ⟨hx, hb, hml, hown, hts⟩ (k_X4_in l (nI j9) (nI 0) (nI 2)) (va_cwS 3 hts gX4_whyNotMark_X4_in rfl rfl rfl hd_X4_in ⟨Nat.le_of_ble_eq_true rfl, Nat.le_of_ble_eq_true rfl⟩) ⟨pm_no_blind, pm_no_pre⟩ rfl rfl hl.1 rfl (lv_room (Nat.le_of_ble_eq_true rfl)) dX4_whyNotMark_19 ⟨Nat.le_of_ble_eq_true rfl, Nat.le_of_ble_eq_true rfl⟩) (fun r14 h15 => ?_)
        rcases (show ((nI 0 ≤ nI j9 ∧ nI j9 ≤ nI 2) ∧ r14 = nI 1) ∨ (¬ (nI 0 ≤ nI j9 ∧ nI j9 ≤ nI 2) ∧ r14 = nI 0) from h15) with ⟨hp16, rfl⟩ | ⟨hp16, rfl⟩
        · replace hp16 := (pm_in_n (by omega) (by decide) (by decide)).mp hp16
          refine lv_if_ne (tgt := 28) hx hb dX4_whyNotMark_22 (by decide) (fun _ => ?_) (fun c17 => absurd c17 (by decide))
          refine lv_aload_n hx hb dX4_whyNotMark_28 rfl (lv_at hl 0 rfl) ?_
          refine lv_iload_n hx hb dX4_whyNotMark_29 rfl (lv_at hl 2 rfl) ?_
          refine vp_callSi (W.runV (As := [.int (nI j7)]) (rest := []) ⟨hx, hb, hml, hown, hts⟩ (k_X4_isOpen l D y q S gp gs kn ln sv pd j7 (hI.how j7 (by omega)) (by omega)) (cwV 1 hts gX4_whyNotMark_X4_isOpen rfl rfl rfl hd_X4_isOpen ⟨Nat.le_of_ble_eq_true rfl, Nat.le_of_ble_eq_true rfl⟩) ⟨pm_ro_blind, va_recv hK hP (ci := 4) (q0 := 0) rfl rfl, pm_ro_pre hP hK⟩ rfl rfl hl.1 rfl (lv_room (Nat.le_of_ble_eq_true rfl)) dX4_whyNotMark_30 ⟨Nat.le_of_ble_eq_true rfl, Nat.le_of_ble_eq_true rfl⟩) (fun r18 h19 => ?_)
          rcases (show ((S 0 j7 = 0) ∧ r18 = nI 1) ∨ (¬ (S 0 j7 = 0) ∧ r18 = nI 0) from h19) with ⟨hp20, rfl⟩ | ⟨hp20, rfl⟩
          · skip
            refine lv_if_ne (tgt := 39) hx hb dX4_whyNotMark_33 (by decide) (fun _ => ?_) (fun c21 => absurd c21 (by decide))
            refine lv_iload_n hx hb dX4_whyNotMark_39 rfl (lv_at hl 3 rfl) ?_
            refine lv_iconst (v := nI 2) hx hb dX4_whyNotMark_40 (by decide) ?_
            refine kx_icmp_ne (tgt := 58) hx hb (by omega) (by decide) dX4_whyNotMark_41 (by decide) (fun c22 => ?_) (fun c22 => ?_)
            · skip
              refine lv_iconst (v := nI 0) hx hb dX4_whyNotMark_58 (by decide) ?_
              refine lv_istore (lv' := [(4, .int (nI 0)), (0, .ref (q 0)), (1, .int (nI j3)), (2, .int (nI j7)), (3, .int (nI j9))]) hx hb dX4_whyNotMark_59 hl (by decide) rfl (fun ls hl => ?_)
              refine lv_iload hx hb dX4_whyNotMark_61 (lv_at hl 0 rfl) ?_
              refine lv_if_eq (tgt := 88) hx hb dX4_whyNotMark_63 (by decide) (fun _ => ?_) (fun c23 => (c23 (by decide)).elim)
              refine lv_iconst (v := nI 0) hx hb dX4_whyNotMark_88 (by decide) ?_
              have E : pm_aMark S (nI j3) (nI j7) (nI j9) = (nI (pm_mk (S 4 j7) j3), pm_st S 4 j7 (pm_sm (S 4 j7) j3 j9)) := by simp only [pm_aMark, pm_ix_in hj3 (show (3 : Nat) < 2 ^ 31 by decide), pm_ix_in hj7 (show (30 : Nat) < 2 ^ 31 by decide), pm_ix_in hj9 (show (3 : Nat) < 2 ^ 31 by decide)] <;> ((repeat' split) <;> first | rfl | (exfalso; omega))
              exact W.iret hx hb hr (fun t ht _ => ⟨_, rfl, (Or.inl ⟨j3, j7, j9, hj3, hj7, hj9, rfl, rfl, rfl, E, rfl⟩), ht⟩) (fun _ h => absurd h List.not_mem_nil) dX4_whyNotMark_89
            · skip
              refine lv_aload_n hx hb dX4_whyNotMark_44 rfl (lv_at hl 0 rfl) ?_
              refine lv_iload_n hx hb dX4_whyNotMark_45 rfl (lv_at hl 1 rfl) ?_
              refine lv_iload_n hx hb dX4_whyNotMark_46 rfl (lv_at hl 2 rfl) ?_
              refine vp_callSi (W.runV (As := [.int (nI j3), .int (nI j7)]) (rest := []) ⟨hx, hb, hml, hown, hts⟩ (k_X4_markOf l D y q S gp gs kn ln sv pd j3 j7 (hI.okm j7 (by omega)) (by omega) (by omega)) (cwV 2 hts gX4_whyNotMark_X4_markOf rfl rfl rfl hd_X4_markOf ⟨Nat.le_of_ble_eq_true rfl, Nat.le_of_ble_eq_true rfl⟩) ⟨pm_ro_blind, va_recv hK hP (ci := 4) (q0 := 0) rfl rfl, pm_ro_pre hP hK⟩ rfl rfl hl.1 rfl (lv_room (Nat.le_of_ble_eq_true rfl)) dX4_whyNotMark_47 ⟨Nat.le_of_ble_eq_true rfl, Nat.le_of_ble_eq_true rfl⟩) (fun r24 h25 => ?_)
              obtain rfl : r24 = nI (pm_mk (S 4 j7) j3) := h25
              have := pm_lt4 (S 4 j7) j3
              refine lv_iconst (v := nI 2) hx hb dX4_whyNotMark_50 (by decide) ?_
              refine kx_icmp_eq (tgt := 58) hx hb (by omega) (by decide) dX4_whyNotMark_51 (by decide) (fun c26 => ?_) (fun c26 => ?_)
              · skip
                refine lv_iconst (v := nI 0) hx hb dX4_whyNotMark_58 (by decide) ?_
                refine lv_istore (lv' := [(4, .int (nI 0)), (0, .ref (q 0)), (1, .int (nI j3)), (2, .int (nI j7)), (3, .int (nI j9))]) hx hb dX4_whyNotMark_59 hl (by decide) rfl (fun ls hl => ?_)
                refine lv_iload hx hb dX4_whyNotMark_61 (lv_at hl 0 rfl) ?_
                refine lv_if_eq (tgt := 88) hx hb dX4_whyNotMark_63 (by decide) (fun _ => ?_) (fun c27 => (c27 (by decide)).elim)
                refine lv_iconst (v := nI 0) hx hb dX4_whyNotMark_88 (by decide) ?_
                have E : pm_aMark S (nI j3) (nI j7) (nI j9) = (nI (pm_mk (S 4 j7) j3), pm_st S 4 j7 (pm_sm (S 4 j7) j3 j9)) := by simp only [pm_aMark, pm_ix_in hj3 (show (3 : Nat) < 2 ^ 31 by decide), pm_ix_in hj7 (show (30 : Nat) < 2 ^ 31 by decide), pm_ix_in hj9 (show (3 : Nat) < 2 ^ 31 by decide)] <;> ((repeat' split) <;> first | rfl | (exfalso; omega))
                exact W.iret hx hb hr (fun t ht _ => ⟨_, rfl, (Or.inl ⟨j3, j7, j9, hj3, hj7, hj9, rfl, rfl, rfl, E, rfl⟩), ht⟩) (fun _ h => absurd h List.not_mem_nil) dX4_whyNotMark_89
              · skip
                refine lv_iconst (v := nI 1) hx hb dX4_whyNotMark_54 (by decide) ?_
                refine lv_goto (tgt := 59) hx hb dX4_whyNotMark_55 (by decide) ?_
                refine lv_istore (lv' := [(4, .int (nI 1)), (0, .ref (q 0)), (1, .int (nI j3)), (2, .int (nI j7)), (3, .int (nI j9))]) hx hb dX4_whyNotMark_59 hl (by decide) rfl (fun ls hl => ?_)
                refine lv_iload hx hb dX4_whyNotMark_61 (lv_at hl 0 rfl) ?_
                refine lv_if_eq (tgt := 88) hx hb dX4_whyNotMark_63 (by decide) (fun c28 => absurd c28 (by decide)) (fun _ => ?_)
                refine lv_aload_n hx hb dX4_whyNotMark_66 rfl (lv_at hl 1 rfl) ?_
                refine lv_iload_n hx hb dX4_whyNotMark_67 rfl (lv_at hl 2 rfl) ?_
                refine lv_iconst (v := nI 2) hx hb dX4_whyNotMark_68 (by decide) ?_
                refine vp_callSi (W.runV (As := [.int (nI j3), .int (nI 2)]) (rest := []) ⟨hx, hb, hml, hown, hts⟩ (k_X4_marked l D y q S gp gs kn ln sv pd j3 2 hI (by omega) (by omega)) (cwV 2 hts gX4_whyNotMark_X4_marked rfl rfl rfl hd_X4_marked ⟨Nat.le_of_ble_eq_true rfl, Nat.le_of_ble_eq_true rfl⟩) ⟨pm_ro_blind, va_recv hK hP (ci := 4) (q0 := 0) rfl rfl, pm_ro_pre hP hK⟩ rfl rfl hl.1 rfl (lv_room (Nat.le_of_ble_eq_true rfl)) dX4_whyNotMark_69 ⟨Nat.le_of_ble_eq_true rfl, Nat.le_of_ble_eq_true rfl⟩) (fun r29 h30 => ?_)
                obtain rfl : r29 = nI (pm_cnt S j3 2 30) := h30
                have := pm_cnt_le S j3 2 30
                refine lv_aload_n hx hb dX4_whyNotMark_72 rfl (lv_at hl 1 rfl) ?_
                refine va_get (D := D) (ci := 4) (v := .ref (q 1)) (C := RX4) (T := TX4) (N := 7) hx hb hts hin4 hown hK hP 0 rfl rfl 0 (by decide) (hts (.fieldLink RX4 7 "ProofMarksModel" "s" "[I") (List.mem_of_getElem? (i := 1) rfl)) (fun _ h9 => h9) rfl dX4_whyNotMark_73 ?_
                refine lv_sipush (v := nI 163) hx hb dX4_whyNotMark_76 (by decide) ?_
                refine kx_iald (v := nI (S 9 1)) hx hb hK hP 1 0 rfl rfl (by omega) (by decide) (pm_ms_s (S := S) (k := 1) (by omega)) dX4_whyNotMark_79 ?_
                have := hI.set9 1 (by omega)
                refine kx_icmp_lt (tgt := 88) hx hb (by omega) (by omega) dX4_whyNotMark_80 (by decide) (fun c31 => ?_) (fun c31 => ?_)
                · skip
                  refine lv_iconst (v := nI 0) hx hb dX4_whyNotMark_88 (by decide) ?_
                  have E : pm_aMark S (nI j3) (nI j7) (nI j9) = (nI (pm_mk (S 4 j7) j3), pm_st S 4 j7 (pm_sm (S 4 j7) j3 j9)) := by simp only [pm_aMark, pm_ix_in hj3 (show (3 : Nat) < 2 ^ 31 by decide), pm_ix_in hj7 (show (30 : Nat) < 2 ^ 31 by decide), pm_ix_in hj9 (show (3 : Nat) < 2 ^ 31 by decide)] <;> ((repeat' split) <;> first | rfl | (exfalso; omega))
                  exact W.iret hx hb hr (fun t ht _ => ⟨_, rfl, (Or.inl ⟨j3, j7, j9, hj3, hj7, hj9, rfl, rfl, rfl, E, rfl⟩), ht⟩) (fun _ h => absurd h List.not_mem_nil) dX4_whyNotMark_89
                · skip
                  refine lv_bipush (v := (-4)) hx hb dX4_whyNotMark_83 (by decide) ?_
                  refine lv_goto (tgt := 89) hx hb dX4_whyNotMark_85 (by decide) ?_
                  have E : pm_aMark S (nI j3) (nI j7) (nI j9) = ((-4), S) := by simp only [pm_aMark, pm_ix_in hj3 (show (3 : Nat) < 2 ^ 31 by decide), pm_ix_in hj7 (show (30 : Nat) < 2 ^ 31 by decide), pm_ix_in hj9 (show (3 : Nat) < 2 ^ 31 by decide)] <;> ((repeat' split) <;> first | rfl | (exfalso; omega))
                  exact W.iret hx hb hr (fun t ht _ => ⟨_, rfl, (Or.inr ⟨_, E, pm_neg4, rfl⟩), ht⟩) (fun _ h => absurd h List.not_mem_nil) dX4_whyNotMark_89
          · skip
            refine lv_if_ne (tgt := 39) hx hb dX4_whyNotMark_33 (by decide) (fun c32 => (c32 (by decide)).elim) (fun _ => ?_)
            refine lv_bipush (v := (-5)) hx hb dX4_whyNotMark_36 (by decide) ?_
            have E : pm_aMark S (nI j3) (nI j7) (nI j9) = ((-5), S) := by simp only [pm_aMark, pm_ix_in hj3 (show (3 : Nat) < 2 ^ 31 by decide), pm_ix_in hj7 (show (30 : Nat) < 2 ^ 31 by decide), pm_ix_in hj9 (show (3 : Nat) < 2 ^ 31 by decide)] <;> ((repeat' split) <;> first | rfl | (exfalso; omega))
            exact W.iret hx hb hr (fun t ht _ => ⟨_, rfl, (Or.inr ⟨_, E, pm_neg5, rfl⟩), ht⟩) (fun _ h => absurd h List.not_mem_nil) dX4_whyNotMark_38
        · replace hp16 := mt (pm_in_n (by omega) (by decide) (by decide)).mpr hp16
          refine lv_if_ne (tgt := 28) hx hb dX4_whyNotMark_22 (by decide) (fun c33 => (c33 (by decide)).elim) (fun _ => ?_)
          refine lv_bipush (v := (-2)) hx hb dX4_whyNotMark_25 (by decide) ?_
          have E : pm_aMark S (nI j3) (nI j7) (nI j9) = ((-2), S) := by simp only [pm_aMark, pm_ix_in hj3 (show (3 : Nat) < 2 ^ 31 by decide), pm_ix_in hj7 (show (30 : Nat) < 2 ^ 31 by decide), pm_ix_in hj9 (show (3 : Nat) < 2 ^ 31 by decide)] <;> ((repeat' split) <;> first | rfl | (exfalso; omega))
          exact W.iret hx hb hr (fun t ht _ => ⟨_, rfl, (Or.inr ⟨_, E, pm_neg2, rfl⟩), ht⟩) (fun _ h => absurd h List.not_mem_nil) dX4_whyNotMark_27
    · skip
      refine lv_if_ne (tgt := 16) hx hb dX4_whyNotMark_11 (by decide) (fun c34 => (c34 (by decide)).elim) (fun _ => ?_)
      refine lv_iconst (v := -1) hx hb dX4_whyNotMark_14 (by decide) ?_
      have E : pm_aMark S (nI j3) xf xm = (-1, S) := by simp only [pm_aMark, pm_ix_in hj3 (show (3 : Nat) < 2 ^ 31 by decide), pm_ix_out hnj7] <;> ((repeat' split) <;> first | rfl | (exfalso; omega))
      exact W.iret hx hb hr (fun t ht _ => ⟨_, rfl, (Or.inr ⟨_, E, pm_neg1, rfl⟩), ht⟩) (fun _ h => absurd h List.not_mem_nil) dX4_whyNotMark_15
  · skip
    refine lv_if_eq (tgt := 14) hx hb dX4_whyNotMark_4 (by decide) (fun _ => ?_) (fun c35 => (c35 (by decide)).elim)
    refine lv_iconst (v := -1) hx hb dX4_whyNotMark_14 (by decide) ?_
    have E : pm_aMark S xe xf xm = (-1, S) := by simp only [pm_aMark, pm_ix_out hnj3] <;> ((repeat' split) <;> first | rfl | (exfalso; omega))
    exact W.iret hx hb hr (fun t ht _ => ⟨_, rfl, (Or.inr ⟨_, E, pm_neg1, rfl⟩), ht⟩) (fun _ h => absurd h List.not_mem_nil) dX4_whyNotMark_15

set_option maxHeartbeats 4000000 in
set_option maxRecDepth 100000 in
theorem k_X4_whyNotArgue (l : Launch) (D : va_G) (y : Nat → ClassId) (q : Nat → Nat) (S : Nat → Nat → Nat) (gp gs : Nat → Int32) (kn ln : Nat) (sv pd : Nat → Nat) (xe xo xf : Int32) (hI : pm_Inv S) : Met l yX4_whyNotArgue wsX4_whyNotArgue ({ frames := 2, cells := 0, slots := 0, locals := 43 } : Room) (pm_ro D (pm_ty y) [.ref (q 0), .int xe, .int xo, .int xf] (pm_mo y q S gp gs kn ln sv pd)) (vp_Si (fun r : Int32 => pm_WA S xe xo xf r)) 0 0 (fun _ => False) := by
  refine Met.ofW (cc := cX4_whyNotArgue) (maxL := 5) (ret := (some .int)) (by decide) rfl ?_
  intro p e s m args below meth c s₁ B hml hpre
  obtain ⟨rfl, hP, hK⟩ := hpre
  have hx := B.exec
  have hb := B.bytes
  have hr := B.returns
  have hts := atoms_spec (ws := wsX4_whyNotArgue) B.pre
  have hown : s.vm.findClass RX4 = some m.cls := findClass_of_methodNamed B.named
  have hlocks := B.notSynchronized
  have hin4 : ∀ w ∈ u_ws RX4 TX4 7, w ∈ wsX4_whyNotArgue := fun w h => List.mem_cons_of_mem _ (List.mem_append_right _ h)
  have hP : va_P D vwCl (pm_mo y q S gp gs kn ln sv pd) s.heap := hP
  have hl := lv_entry ([.ref (q 0), .int xe, .int xo, .int xf]) (n := 5) (Nat.le_of_ble_eq_true rfl)
  rw [lg_entry_eq]
  generalize (lg_sl ([.ref (q 0), .int xe, .int xo, .int xf]) ++ List.replicate (5 - (lg_sl ([.ref (q 0), .int xe, .int xo, .int xf])).length) Slot.unset).toArray = ls at hl ⊢
  have hl : lv_has ls 5 [(0, .ref (q 0)), (1, .int xe), (2, .int xo), (3, .int xf)] := hl
  refine lv_iload_n hx hb dX4_whyNotArgue_0 rfl (lv_at hl 1 rfl) ?_
  refine vp_callSi (W.runS (As := [.int xe]) (rest := []) ⟨hx, hb, hml, hown, hts⟩ (k_X4_isEditor l xe) (va_cwS 1 hts gX4_whyNotArgue_X4_isEditor rfl rfl rfl hd_X4_isEditor ⟨Nat.le_of_ble_eq_true rfl, Nat.le_of_ble_eq_true rfl⟩) ⟨pm_no_blind, pm_no_pre⟩ rfl rfl hl.1 rfl (lv_room (Nat.le_of_ble_eq_true rfl)) dX4_whyNotArgue_1 ⟨Nat.le_of_ble_eq_true rfl, Nat.le_of_ble_eq_true rfl⟩) (fun r1 h2 => ?_)
  rcases h2 with ⟨j3, hj3, ej3, rfl⟩ | ⟨hnj3, rfl⟩
  · subst ej3
    refine lv_if_eq (tgt := 21) hx hb dX4_whyNotArgue_4 (by decide) (fun c4 => absurd c4 (by decide)) (fun _ => ?_)
    refine lv_iload_n hx hb dX4_whyNotArgue_7 rfl (lv_at hl 2 rfl) ?_
    refine vp_callSi (W.runS (As := [.int xo]) (rest := []) ⟨hx, hb, hml, hown, hts⟩ (k_X4_isEditor l xo) (va_cwS 1 hts gX4_whyNotArgue_X4_isEditor rfl rfl rfl hd_X4_isEditor ⟨Nat.le_of_ble_eq_true rfl, Nat.le_of_ble_eq_true rfl⟩) ⟨pm_no_blind, pm_no_pre⟩ rfl rfl hl.1 rfl (lv_room (Nat.le_of_ble_eq_true rfl)) dX4_whyNotArgue_8 ⟨Nat.le_of_ble_eq_true rfl, Nat.le_of_ble_eq_true rfl⟩) (fun r5 h6 => ?_)
    rcases h6 with ⟨j7, hj7, ej7, rfl⟩ | ⟨hnj7, rfl⟩
    · subst ej7
      refine lv_if_eq (tgt := 21) hx hb dX4_whyNotArgue_11 (by decide) (fun c8 => absurd c8 (by decide)) (fun _ => ?_)
      refine lv_iload_n hx hb dX4_whyNotArgue_14 rfl (lv_at hl 3 rfl) ?_
      refine vp_callSi (W.runS (As := [.int xf]) (rest := []) ⟨hx, hb, hml, hown, hts⟩ (k_X4_isFrame l xf) (va_cwS 1 hts gX4_whyNotArgue_X4_isFrame rfl rfl rfl hd_X4_isFrame ⟨Nat.le_of_ble_eq_true rfl, Nat.le_of_ble_eq_true rfl⟩) ⟨pm_no_blind, pm_no_pre⟩ rfl rfl hl.1 rfl (lv_room (Nat.le_of_ble_eq_true rfl)) dX4_whyNotArgue_15 ⟨Nat.le_of_ble_eq_true rfl, Nat.le_of_ble_eq_true rfl⟩) (fun r9 h10 => ?_)
      rcases h10 with ⟨j11, hj11, ej11, rfl⟩ | ⟨hnj11, rfl⟩
      · subst ej11
        refine lv_if_ne (tgt := 23) hx hb dX4_whyNotArgue_18 (by decide) (fun _ => ?_) (fun c12 => absurd c12 (by decide))
        refine lv_iload_n hx hb dX4_whyNotArgue_23 rfl (lv_at hl 1 rfl) ?_
        refine lv_iload_n hx hb dX4_whyNotArgue_24 rfl (lv_at hl 2 rfl) ?_
        refine kx_icmp_ne (tgt := 31) hx hb (by omega) (by omega) dX4_whyNotArgue_25 (by decide) (fun c13 => ?_) (fun c13 => ?_)
        · skip
          refine lv_aload_n hx hb dX4_whyNotArgue_31 rfl (lv_at hl 0 rfl) ?_
          refine lv_iload_n hx hb dX4_whyNotArgue_32 rfl (lv_at hl 2 rfl) ?_
          refine lv_iload_n hx hb dX4_whyNotArgue_33 rfl (lv_at hl 3 rfl) ?_
          refine vp_callSi (W.runV (As := [.int (nI j7), .int (nI j11)]) (rest := []) ⟨hx, hb, hml, hown, hts⟩ (k_X4_markOf l D y q S gp gs kn ln sv pd j7 j11 (hI.okm j11 (by omega)) (by omega) (by omega)) (cwV 2 hts gX4_whyNotArgue_X4_markOf rfl rfl rfl hd_X4_markOf ⟨Nat.le_of_ble_eq_true rfl, Nat.le_of_ble_eq_true rfl⟩) ⟨pm_ro_blind, va_recv hK hP (ci := 4) (q0 := 0) rfl rfl, pm_ro_pre hP hK⟩ rfl rfl hl.1 rfl (lv_room (Nat.le_of_ble_eq_true rfl)) dX4_whyNotArgue_34 ⟨Nat.le_of_ble_eq_true rfl, Nat.le_of_ble_eq_true rfl⟩) (fun r14 h15 => ?_)
          obtain rfl : r14 = nI (pm_mk (S 4 j11) j7) := h15
          have := pm_lt4 (S 4 j11) j7
          refine lv_iconst (v := nI 2) hx hb dX4_whyNotArgue_37 (by decide) ?_
          refine kx_icmp_ne (tgt := 66) hx hb (by omega) (by decide) dX4_whyNotArgue_38 (by decide) (fun c16 => ?_) (fun c16 => ?_)
          · skip
            refine lv_iconst (v := nI 0) hx hb dX4_whyNotArgue_66 (by decide) ?_
            refine lv_istore (lv' := [(4, .int (nI 0)), (0, .ref (q 0)), (1, .int (nI j3)), (2, .int (nI j7)), (3, .int (nI j11))]) hx hb dX4_whyNotArgue_67 hl (by decide) rfl (fun ls hl => ?_)
            refine lv_iload hx hb dX4_whyNotArgue_69 (lv_at hl 0 rfl) ?_
            refine lv_if_eq (tgt := 78) hx hb dX4_whyNotArgue_71 (by decide) (fun _ => ?_) (fun c17 => (c17 (by decide)).elim)
            refine lv_bipush (v := (-5)) hx hb dX4_whyNotArgue_78 (by decide) ?_
            have E : pm_aArgue S (nI j3) (nI j7) (nI j11) = ((-5), S) := by simp only [pm_aArgue, pm_ix_in hj3 (show (3 : Nat) < 2 ^ 31 by decide), pm_ix_in hj7 (show (3 : Nat) < 2 ^ 31 by decide), pm_ix_in hj11 (show (30 : Nat) < 2 ^ 31 by decide)] <;> ((repeat' split) <;> first | rfl | (exfalso; omega))
            exact W.iret hx hb hr (fun t ht _ => ⟨_, rfl, (Or.inr ⟨_, E, pm_neg5, rfl⟩), ht⟩) (fun _ h => absurd h List.not_mem_nil) dX4_whyNotArgue_80
          · skip
            refine lv_aload_n hx hb dX4_whyNotArgue_41 rfl (lv_at hl 0 rfl) ?_
            refine va_get (D := D) (ci := 4) (v := .ref (q 1)) (C := RX4) (T := TX4) (N := 7) hx hb hts hin4 hown hK hP 0 rfl rfl 0 (by decide) (hts (.fieldLink RX4 7 "ProofMarksModel" "s" "[I") (List.mem_of_getElem? (i := 1) rfl)) (fun _ h9 => h9) rfl dX4_whyNotArgue_42 ?_
            refine lv_iload_n hx hb dX4_whyNotArgue_45 rfl (lv_at hl 1 rfl) ?_
            refine lv_iconst (v := nI 0) hx hb dX4_whyNotArgue_46 (by decide) ?_
            refine vp_callSi (W.runS (As := [.int (nI j3), .int (nI 0)]) (rest := [.ref (q 1)]) ⟨hx, hb, hml, hown, hts⟩ (k_X4_of3 l j3 0) (va_cwS 2 hts gX4_whyNotArgue_X4_of3 rfl rfl rfl hd_X4_of3 ⟨Nat.le_of_ble_eq_true rfl, Nat.le_of_ble_eq_true rfl⟩) ⟨pm_no_blind, pm_no_pre⟩ rfl rfl hl.1 rfl (lv_room (Nat.le_of_ble_eq_true rfl)) dX4_whyNotArgue_47 ⟨Nat.le_of_ble_eq_true rfl, Nat.le_of_ble_eq_true rfl⟩) (fun r18 h19 => ?_)
            obtain rfl : r18 = nI (150 + 4 * j3 + 0) := h19
            refine kx_iald (v := nI (S 5 j3)) hx hb hK hP 1 0 rfl rfl (by omega) (by decide) (pm_ms_e (S := S) (e := j3) 0 (by decide) (by omega)) dX4_whyNotArgue_50 ?_
            have := hI.pts j3 (by omega)
            refine lv_aload_n hx hb dX4_whyNotArgue_51 rfl (lv_at hl 0 rfl) ?_
            refine va_get (D := D) (ci := 4) (v := .ref (q 1)) (C := RX4) (T := TX4) (N := 7) hx hb hts hin4 hown hK hP 0 rfl rfl 0 (by decide) (hts (.fieldLink RX4 7 "ProofMarksModel" "s" "[I") (List.mem_of_getElem? (i := 1) rfl)) (fun _ h9 => h9) rfl dX4_whyNotArgue_52 ?_
            refine lv_sipush (v := nI 164) hx hb dX4_whyNotArgue_55 (by decide) ?_
            refine kx_iald (v := nI (S 9 2)) hx hb hK hP 1 0 rfl rfl (by omega) (by decide) (pm_ms_s (S := S) (k := 2) (by omega)) dX4_whyNotArgue_58 ?_
            have := hI.set9 2 (by omega)
            refine kx_icmp_lt (tgt := 66) hx hb (by omega) (by omega) dX4_whyNotArgue_59 (by decide) (fun c20 => ?_) (fun c20 => ?_)
            · skip
              refine lv_iconst (v := nI 0) hx hb dX4_whyNotArgue_66 (by decide) ?_
              refine lv_istore (lv' := [(4, .int (nI 0)), (0, .ref (q 0)), (1, .int (nI j3)), (2, .int (nI j7)), (3, .int (nI j11))]) hx hb dX4_whyNotArgue_67 hl (by decide) rfl (fun ls hl => ?_)
              refine lv_iload hx hb dX4_whyNotArgue_69 (lv_at hl 0 rfl) ?_
              refine lv_if_eq (tgt := 78) hx hb dX4_whyNotArgue_71 (by decide) (fun _ => ?_) (fun c21 => (c21 (by decide)).elim)
              refine lv_bipush (v := (-5)) hx hb dX4_whyNotArgue_78 (by decide) ?_
              have E : pm_aArgue S (nI j3) (nI j7) (nI j11) = ((-5), S) := by simp only [pm_aArgue, pm_ix_in hj3 (show (3 : Nat) < 2 ^ 31 by decide), pm_ix_in hj7 (show (3 : Nat) < 2 ^ 31 by decide), pm_ix_in hj11 (show (30 : Nat) < 2 ^ 31 by decide)] <;> ((repeat' split) <;> first | rfl | (exfalso; omega))
              exact W.iret hx hb hr (fun t ht _ => ⟨_, rfl, (Or.inr ⟨_, E, pm_neg5, rfl⟩), ht⟩) (fun _ h => absurd h List.not_mem_nil) dX4_whyNotArgue_80
            · skip
              refine lv_iconst (v := nI 1) hx hb dX4_whyNotArgue_62 (by decide) ?_
              refine lv_goto (tgt := 67) hx hb dX4_whyNotArgue_63 (by decide) ?_
              refine lv_istore (lv' := [(4, .int (nI 1)), (0, .ref (q 0)), (1, .int (nI j3)), (2, .int (nI j7)), (3, .int (nI j11))]) hx hb dX4_whyNotArgue_67 hl (by decide) rfl (fun ls hl => ?_)
              refine lv_iload hx hb dX4_whyNotArgue_69 (lv_at hl 0 rfl) ?_
              refine lv_if_eq (tgt := 78) hx hb dX4_whyNotArgue_71 (by decide) (fun c22 => absurd c22 (by decide)) (fun _ => ?_)
              refine lv_iconst (v := nI 0) hx hb dX4_whyNotArgue_74 (by decide) ?_
              refine lv_goto (tgt := 80) hx hb dX4_whyNotArgue_75 (by decide) ?_
              exact W.iret hx hb hr (fun t ht _ => ⟨_, rfl, (Or.inl ⟨j3, j7, j11, hj3, hj7, hj11, rfl, rfl, rfl, by omega, by assumption, by omega, rfl⟩), ht⟩) (fun _ h => absurd h List.not_mem_nil) dX4_whyNotArgue_80
        · skip
          refine lv_bipush (v := (-2)) hx hb dX4_whyNotArgue_28 (by decide) ?_
          have E : pm_aArgue S (nI j3) (nI j7) (nI j11) = ((-2), S) := by simp only [pm_aArgue, pm_ix_in hj3 (show (3 : Nat) < 2 ^ 31 by decide), pm_ix_in hj7 (show (3 : Nat) < 2 ^ 31 by decide), pm_ix_in hj11 (show (30 : Nat) < 2 ^ 31 by decide)] <;> ((repeat' split) <;> first | rfl | (exfalso; omega))
          exact W.iret hx hb hr (fun t ht _ => ⟨_, rfl, (Or.inr ⟨_, E, pm_neg2, rfl⟩), ht⟩) (fun _ h => absurd h List.not_mem_nil) dX4_whyNotArgue_30
      · skip
        refine lv_if_ne (tgt := 23) hx hb dX4_whyNotArgue_18 (by decide) (fun c23 => (c23 (by decide)).elim) (fun _ => ?_)
        refine lv_iconst (v := -1) hx hb dX4_whyNotArgue_21 (by decide) ?_
        have E : pm_aArgue S (nI j3) (nI j7) xf = (-1, S) := by simp only [pm_aArgue, pm_ix_in hj3 (show (3 : Nat) < 2 ^ 31 by decide), pm_ix_in hj7 (show (3 : Nat) < 2 ^ 31 by decide), pm_ix_out hnj11] <;> ((repeat' split) <;> first | rfl | (exfalso; omega))
        exact W.iret hx hb hr (fun t ht _ => ⟨_, rfl, (Or.inr ⟨_, E, pm_neg1, rfl⟩), ht⟩) (fun _ h => absurd h List.not_mem_nil) dX4_whyNotArgue_22
    · skip
      refine lv_if_eq (tgt := 21) hx hb dX4_whyNotArgue_11 (by decide) (fun _ => ?_) (fun c24 => (c24 (by decide)).elim)
      refine lv_iconst (v := -1) hx hb dX4_whyNotArgue_21 (by decide) ?_
      have E : pm_aArgue S (nI j3) xo xf = (-1, S) := by simp only [pm_aArgue, pm_ix_in hj3 (show (3 : Nat) < 2 ^ 31 by decide), pm_ix_out hnj7] <;> ((repeat' split) <;> first | rfl | (exfalso; omega))
      exact W.iret hx hb hr (fun t ht _ => ⟨_, rfl, (Or.inr ⟨_, E, pm_neg1, rfl⟩), ht⟩) (fun _ h => absurd h List.not_mem_nil) dX4_whyNotArgue_22
  · skip
    refine lv_if_eq (tgt := 21) hx hb dX4_whyNotArgue_4 (by decide) (fun _ => ?_) (fun c25 => (c25 (by decide)).elim)
    refine lv_iconst (v := -1) hx hb dX4_whyNotArgue_21 (by decide) ?_
    have E : pm_aArgue S xe xo xf = (-1, S) := by simp only [pm_aArgue, pm_ix_out hnj3] <;> ((repeat' split) <;> first | rfl | (exfalso; omega))
    exact W.iret hx hb hr (fun t ht _ => ⟨_, rfl, (Or.inr ⟨_, E, pm_neg1, rfl⟩), ht⟩) (fun _ h => absurd h List.not_mem_nil) dX4_whyNotArgue_22

set_option maxHeartbeats 4000000 in
set_option maxRecDepth 100000 in
theorem k_X4_whyNotPrint (l : Launch) (D : va_G) (y : Nat → ClassId) (q : Nat → Nat) (S : Nat → Nat → Nat) (gp gs : Nat → Int32) (kn ln : Nat) (sv pd : Nat → Nat) (xf xz : Int32) (hI : pm_Inv S) : Met l yX4_whyNotPrint wsX4_whyNotPrint ({ frames := 2, cells := 0, slots := 0, locals := 42 } : Room) (pm_ro D (pm_ty y) [.ref (q 0), .int xf, .int xz] (pm_mo y q S gp gs kn ln sv pd)) (vp_Si (fun r : Int32 => pm_WP S xf xz r)) 0 0 (fun _ => False) := by
  refine Met.ofW (cc := cX4_whyNotPrint) (maxL := 4) (ret := (some .int)) (by decide) rfl ?_
  intro p e s m args below meth c s₁ B hml hpre
  obtain ⟨rfl, hP, hK⟩ := hpre
  have hx := B.exec
  have hb := B.bytes
  have hr := B.returns
  have hts := atoms_spec (ws := wsX4_whyNotPrint) B.pre
  have hown : s.vm.findClass RX4 = some m.cls := findClass_of_methodNamed B.named
  have hlocks := B.notSynchronized
  have hin4 : ∀ w ∈ u_ws RX4 TX4 7, w ∈ wsX4_whyNotPrint := fun w h => List.mem_cons_of_mem _ (List.mem_append_right _ h)
  have hP : va_P D vwCl (pm_mo y q S gp gs kn ln sv pd) s.heap := hP
  have hl := lv_entry ([.ref (q 0), .int xf, .int xz]) (n := 4) (Nat.le_of_ble_eq_true rfl)
  rw [lg_entry_eq]
  generalize (lg_sl ([.ref (q 0), .int xf, .int xz]) ++ List.replicate (4 - (lg_sl ([.ref (q 0), .int xf, .int xz])).length) Slot.unset).toArray = ls at hl ⊢
  have hl : lv_has ls 4 [(0, .ref (q 0)), (1, .int xf), (2, .int xz)] := hl
  refine lv_iload_n hx hb dX4_whyNotPrint_0 rfl (lv_at hl 1 rfl) ?_
  refine vp_callSi (W.runS (As := [.int xf]) (rest := []) ⟨hx, hb, hml, hown, hts⟩ (k_X4_isFrame l xf) (va_cwS 1 hts gX4_whyNotPrint_X4_isFrame rfl rfl rfl hd_X4_isFrame ⟨Nat.le_of_ble_eq_true rfl, Nat.le_of_ble_eq_true rfl⟩) ⟨pm_no_blind, pm_no_pre⟩ rfl rfl hl.1 rfl (lv_room (Nat.le_of_ble_eq_true rfl)) dX4_whyNotPrint_1 ⟨Nat.le_of_ble_eq_true rfl, Nat.le_of_ble_eq_true rfl⟩) (fun r1 h2 => ?_)
  rcases h2 with ⟨j3, hj3, ej3, rfl⟩ | ⟨hnj3, rfl⟩
  · subst ej3
    refine lv_if_ne (tgt := 9) hx hb dX4_whyNotPrint_4 (by decide) (fun _ => ?_) (fun c4 => absurd c4 (by decide))
    rcases pm_cases xz (n := 4) (by decide) with hnj5 | ⟨j5, hj5, rfl⟩
    · skip
      refine lv_iload_n hx hb dX4_whyNotPrint_9 rfl (lv_at hl 2 rfl) ?_
      refine lv_iconst (v := nI 1) hx hb dX4_whyNotPrint_10 (by decide) ?_
      refine lv_iconst (v := nI 3) hx hb dX4_whyNotPrint_11 (by decide) ?_
      refine vp_callSi (W.runS (As := [.int xz, .int (nI 1), .int (nI 3)]) (rest := []) ⟨hx, hb, hml, hown, hts⟩ (k_X4_in l xz (nI 1) (nI 3)) (va_cwS 3 hts gX4_whyNotPrint_X4_in rfl rfl rfl hd_X4_in ⟨Nat.le_of_ble_eq_true rfl, Nat.le_of_ble_eq_true rfl⟩) ⟨pm_no_blind, pm_no_pre⟩ rfl rfl hl.1 rfl (lv_room (Nat.le_of_ble_eq_true rfl)) dX4_whyNotPrint_12 ⟨Nat.le_of_ble_eq_true rfl, Nat.le_of_ble_eq_true rfl⟩) (fun r6 h7 => ?_)
      rcases (show ((nI 1 ≤ xz ∧ xz ≤ nI 3) ∧ r6 = nI 1) ∨ (¬ (nI 1 ≤ xz ∧ xz ≤ nI 3) ∧ r6 = nI 0) from h7) with ⟨hp8, rfl⟩ | ⟨hp8, rfl⟩
      · exact (pm_no2 (n := 3) (a := 1) hnj5 (by decide) (by decide) hp8).elim
      · skip
        refine lv_if_ne (tgt := 21) hx hb dX4_whyNotPrint_15 (by decide) (fun c9 => (c9 (by decide)).elim) (fun _ => ?_)
        refine lv_bipush (v := (-2)) hx hb dX4_whyNotPrint_18 (by decide) ?_
        have E : pm_aPrint S (nI j3) xz = ((-2), S) := by simp only [pm_aPrint, pm_ix_in hj3 (show (30 : Nat) < 2 ^ 31 by decide), pm_ix_out hnj5] <;> ((repeat' split) <;> first | rfl | (exfalso; omega))
        exact W.iret hx hb hr (fun t ht _ => ⟨_, rfl, (Or.inr ⟨_, E, pm_neg2, rfl⟩), ht⟩) (fun _ h => absurd h List.not_mem_nil) dX4_whyNotPrint_20
    · skip
      refine lv_iload_n hx hb dX4_whyNotPrint_9 rfl (lv_at hl 2 rfl) ?_
      refine lv_iconst (v := nI 1) hx hb dX4_whyNotPrint_10 (by decide) ?_
      refine lv_iconst (v := nI 3) hx hb dX4_whyNotPrint_11 (by decide) ?_
      refine vp_callSi (W.runS (As := [.int (nI j5), .int (nI 1), .int (nI 3)]) (rest := []) ⟨hx, hb, hml, hown, hts⟩ (k_X4_in l (nI j5) (nI 1) (nI 3)) (va_cwS 3 hts gX4_whyNotPrint_X4_in rfl rfl rfl hd_X4_in ⟨Nat.le_of_ble_eq_true rfl, Nat.le_of_ble_eq_true rfl⟩) ⟨pm_no_blind, pm_no_pre⟩ rfl rfl hl.1 rfl (lv_room (Nat.le_of_ble_eq_true rfl)) dX4_whyNotPrint_12 ⟨Nat.le_of_ble_eq_true rfl, Nat.le_of_ble_eq_true rfl⟩) (fun r10 h11 => ?_)
      rcases (show ((nI 1 ≤ nI j5 ∧ nI j5 ≤ nI 3) ∧ r10 = nI 1) ∨ (¬ (nI 1 ≤ nI j5 ∧ nI j5 ≤ nI 3) ∧ r10 = nI 0) from h11) with ⟨hp12, rfl⟩ | ⟨hp12, rfl⟩
      · replace hp12 := (pm_in_n (by omega) (by decide) (by decide)).mp hp12
        refine lv_if_ne (tgt := 21) hx hb dX4_whyNotPrint_15 (by decide) (fun _ => ?_) (fun c13 => absurd c13 (by decide))
        refine lv_aload_n hx hb dX4_whyNotPrint_21 rfl (lv_at hl 0 rfl) ?_
        refine va_get (D := D) (ci := 4) (v := .ref (q 1)) (C := RX4) (T := TX4) (N := 7) hx hb hts hin4 hown hK hP 0 rfl rfl 0 (by decide) (hts (.fieldLink RX4 7 "ProofMarksModel" "s" "[I") (List.mem_of_getElem? (i := 1) rfl)) (fun _ h9 => h9) rfl dX4_whyNotPrint_22 ?_
        refine lv_iload_n hx hb dX4_whyNotPrint_25 rfl (lv_at hl 1 rfl) ?_
        refine lv_iconst (v := nI 0) hx hb dX4_whyNotPrint_26 (by decide) ?_
        refine vp_callSi (W.runS (As := [.int (nI j3), .int (nI 0)]) (rest := [.ref (q 1)]) ⟨hx, hb, hml, hown, hts⟩ (k_X4_at l j3 0) (va_cwS 2 hts gX4_whyNotPrint_X4_at rfl rfl rfl hd_X4_at ⟨Nat.le_of_ble_eq_true rfl, Nat.le_of_ble_eq_true rfl⟩) ⟨pm_no_blind, pm_no_pre⟩ rfl rfl hl.1 rfl (lv_room (Nat.le_of_ble_eq_true rfl)) dX4_whyNotPrint_27 ⟨Nat.le_of_ble_eq_true rfl, Nat.le_of_ble_eq_true rfl⟩) (fun r14 h15 => ?_)
        obtain rfl : r14 = nI (5 * j3 + 0) := h15
        refine kx_iald (v := nI (S 0 j3)) hx hb hK hP 1 0 rfl rfl (by omega) (by decide) (pm_ms_f (S := S) (f := j3) 0 (by decide) (by decide) (by omega)) dX4_whyNotPrint_30 ?_
        have := hI.how j3 (by omega)
        refine lv_iconst (v := nI 1) hx hb dX4_whyNotPrint_31 (by decide) ?_
        refine kx_icmp_ne (tgt := 68) hx hb (by omega) (by decide) dX4_whyNotPrint_32 (by decide) (fun c16 => ?_) (fun c16 => ?_)
        · skip
          refine lv_iconst (v := nI 0) hx hb dX4_whyNotPrint_68 (by decide) ?_
          refine lv_istore_n (lv' := [(3, .int (nI 0)), (0, .ref (q 0)), (1, .int (nI j3)), (2, .int (nI j5))]) hx hb dX4_whyNotPrint_69 rfl hl (by decide) rfl (fun ls hl => ?_)
          refine lv_iload_n hx hb dX4_whyNotPrint_70 rfl (lv_at hl 0 rfl) ?_
          refine lv_if_eq (tgt := 78) hx hb dX4_whyNotPrint_71 (by decide) (fun _ => ?_) (fun c17 => (c17 (by decide)).elim)
          refine lv_bipush (v := (-5)) hx hb dX4_whyNotPrint_78 (by decide) ?_
          have E : pm_aPrint S (nI j3) (nI j5) = ((-5), S) := by simp only [pm_aPrint, pm_ix_in hj3 (show (30 : Nat) < 2 ^ 31 by decide), pm_ix_in hj5 (show (4 : Nat) < 2 ^ 31 by decide)] <;> ((repeat' split) <;> first | rfl | (exfalso; omega))
          exact W.iret hx hb hr (fun t ht _ => ⟨_, rfl, (Or.inr ⟨_, E, pm_neg5, rfl⟩), ht⟩) (fun _ h => absurd h List.not_mem_nil) dX4_whyNotPrint_80
        · skip
          refine lv_iload_n hx hb dX4_whyNotPrint_35 rfl (lv_at hl 2 rfl) ?_
          refine lv_aload_n hx hb dX4_whyNotPrint_36 rfl (lv_at hl 0 rfl) ?_
          refine va_get (D := D) (ci := 4) (v := .ref (q 1)) (C := RX4) (T := TX4) (N := 7) hx hb hts hin4 hown hK hP 0 rfl rfl 0 (by decide) (hts (.fieldLink RX4 7 "ProofMarksModel" "s" "[I") (List.mem_of_getElem? (i := 1) rfl)) (fun _ h9 => h9) rfl dX4_whyNotPrint_37 ?_
          refine lv_iload_n hx hb dX4_whyNotPrint_40 rfl (lv_at hl 1 rfl) ?_
          refine lv_iconst (v := nI 2) hx hb dX4_whyNotPrint_41 (by decide) ?_
          refine vp_callSi (W.runS (As := [.int (nI j3), .int (nI 2)]) (rest := [.ref (q 1), .int (nI j5)]) ⟨hx, hb, hml, hown, hts⟩ (k_X4_at l j3 2) (va_cwS 2 hts gX4_whyNotPrint_X4_at rfl rfl rfl hd_X4_at ⟨Nat.le_of_ble_eq_true rfl, Nat.le_of_ble_eq_true rfl⟩) ⟨pm_no_blind, pm_no_pre⟩ rfl rfl hl.1 rfl (lv_room (Nat.le_of_ble_eq_true rfl)) dX4_whyNotPrint_42 ⟨Nat.le_of_ble_eq_true rfl, Nat.le_of_ble_eq_true rfl⟩) (fun r18 h19 => ?_)
          obtain rfl : r18 = nI (5 * j3 + 2) := h19
          refine kx_iald (v := nI (S 2 j3)) hx hb hK hP 1 0 rfl rfl (by omega) (by decide) (pm_ms_f (S := S) (f := j3) 2 (by decide) (by decide) (by omega)) dX4_whyNotPrint_45 ?_
          have := hI.size j3 (by omega)
          refine kx_icmp_gt (tgt := 68) hx hb (by omega) (by omega) dX4_whyNotPrint_46 (by decide) (fun c20 => ?_) (fun c20 => ?_)
          · skip
            refine lv_iconst (v := nI 0) hx hb dX4_whyNotPrint_68 (by decide) ?_
            refine lv_istore_n (lv' := [(3, .int (nI 0)), (0, .ref (q 0)), (1, .int (nI j3)), (2, .int (nI j5))]) hx hb dX4_whyNotPrint_69 rfl hl (by decide) rfl (fun ls hl => ?_)
            refine lv_iload_n hx hb dX4_whyNotPrint_70 rfl (lv_at hl 0 rfl) ?_
            refine lv_if_eq (tgt := 78) hx hb dX4_whyNotPrint_71 (by decide) (fun _ => ?_) (fun c21 => (c21 (by decide)).elim)
            refine lv_bipush (v := (-5)) hx hb dX4_whyNotPrint_78 (by decide) ?_
            have E : pm_aPrint S (nI j3) (nI j5) = ((-5), S) := by simp only [pm_aPrint, pm_ix_in hj3 (show (30 : Nat) < 2 ^ 31 by decide), pm_ix_in hj5 (show (4 : Nat) < 2 ^ 31 by decide)] <;> ((repeat' split) <;> first | rfl | (exfalso; omega))
            exact W.iret hx hb hr (fun t ht _ => ⟨_, rfl, (Or.inr ⟨_, E, pm_neg5, rfl⟩), ht⟩) (fun _ h => absurd h List.not_mem_nil) dX4_whyNotPrint_80
          · skip
            refine lv_iload_n hx hb dX4_whyNotPrint_49 rfl (lv_at hl 2 rfl) ?_
            refine vp_callSi (W.runS (As := [.int (nI j5)]) (rest := []) ⟨hx, hb, hml, hown, hts⟩ (k_X4_paperOf l j5) (va_cwS 1 hts gX4_whyNotPrint_X4_paperOf rfl rfl rfl hd_X4_paperOf ⟨Nat.le_of_ble_eq_true rfl, Nat.le_of_ble_eq_true rfl⟩) ⟨pm_no_blind, pm_no_pre⟩ rfl rfl hl.1 rfl (lv_room (Nat.le_of_ble_eq_true rfl)) dX4_whyNotPrint_50 ⟨Nat.le_of_ble_eq_true rfl, Nat.le_of_ble_eq_true rfl⟩) (fun r22 h23 => ?_)
            obtain rfl : r22 = nI (10 * j5 * j5) := h23
            have hz90 : 10 * j5 * j5 ≤ 90 := by rcases (show j5 = 0 ∨ j5 = 1 ∨ j5 = 2 ∨ j5 = 3 by omega) with h | h | h | h <;> rw [h] <;> decide
            refine lv_aload_n hx hb dX4_whyNotPrint_53 rfl (lv_at hl 0 rfl) ?_
            refine va_get (D := D) (ci := 4) (v := .ref (q 1)) (C := RX4) (T := TX4) (N := 7) hx hb hts hin4 hown hK hP 0 rfl rfl 0 (by decide) (hts (.fieldLink RX4 7 "ProofMarksModel" "s" "[I") (List.mem_of_getElem? (i := 1) rfl)) (fun _ h9 => h9) rfl dX4_whyNotPrint_54 ?_
            refine lv_sipush (v := nI 167) hx hb dX4_whyNotPrint_57 (by decide) ?_
            refine kx_iald (v := nI (S 10 1)) hx hb hK hP 1 0 rfl rfl (by omega) (by decide) (pm_ms_r (S := S) (k := 1) (by decide)) dX4_whyNotPrint_60 ?_
            have := hI.pap
            refine kx_icmp_gt (tgt := 68) hx hb (by omega) (by omega) dX4_whyNotPrint_61 (by decide) (fun c24 => ?_) (fun c24 => ?_)
            · skip
              refine lv_iconst (v := nI 0) hx hb dX4_whyNotPrint_68 (by decide) ?_
              refine lv_istore_n (lv' := [(3, .int (nI 0)), (0, .ref (q 0)), (1, .int (nI j3)), (2, .int (nI j5))]) hx hb dX4_whyNotPrint_69 rfl hl (by decide) rfl (fun ls hl => ?_)
              refine lv_iload_n hx hb dX4_whyNotPrint_70 rfl (lv_at hl 0 rfl) ?_
              refine lv_if_eq (tgt := 78) hx hb dX4_whyNotPrint_71 (by decide) (fun _ => ?_) (fun c25 => (c25 (by decide)).elim)
              refine lv_bipush (v := (-5)) hx hb dX4_whyNotPrint_78 (by decide) ?_
              have E : pm_aPrint S (nI j3) (nI j5) = ((-5), S) := by simp only [pm_aPrint, pm_ix_in hj3 (show (30 : Nat) < 2 ^ 31 by decide), pm_ix_in hj5 (show (4 : Nat) < 2 ^ 31 by decide)] <;> ((repeat' split) <;> first | rfl | (exfalso; omega))
              exact W.iret hx hb hr (fun t ht _ => ⟨_, rfl, (Or.inr ⟨_, E, pm_neg5, rfl⟩), ht⟩) (fun _ h => absurd h List.not_mem_nil) dX4_whyNotPrint_80
            · skip
              refine lv_iconst (v := nI 1) hx hb dX4_whyNotPrint_64 (by decide) ?_
              refine lv_goto (tgt := 69) hx hb dX4_whyNotPrint_65 (by decide) ?_
              refine lv_istore_n (lv' := [(3, .int (nI 1)), (0, .ref (q 0)), (1, .int (nI j3)), (2, .int (nI j5))]) hx hb dX4_whyNotPrint_69 rfl hl (by decide) rfl (fun ls hl => ?_)
              refine lv_iload_n hx hb dX4_whyNotPrint_70 rfl (lv_at hl 0 rfl) ?_
              refine lv_if_eq (tgt := 78) hx hb dX4_whyNotPrint_71 (by decide) (fun c26 => absurd c26 (by decide)) (fun _ => ?_)
              refine lv_iconst (v := nI 0) hx hb dX4_whyNotPrint_74 (by decide) ?_
              refine lv_goto (tgt := 80) hx hb dX4_whyNotPrint_75 (by decide) ?_
              have E : pm_aPrint S (nI j3) (nI j5) = (nI (S 10 1 - 10 * j5 * j5), pm_st (pm_st (pm_st (pm_st (pm_st S 0 j3 3) 2 j3 j5) 10 1 (S 10 1 - 10 * j5 * j5)) 10 2 (S 10 2 + 10 * j5 * j5)) 11 j5 (S 11 j5 + 1)) := by simp only [pm_aPrint, pm_ix_in hj3 (show (30 : Nat) < 2 ^ 31 by decide), pm_ix_in hj5 (show (4 : Nat) < 2 ^ 31 by decide)] <;> ((repeat' split) <;> first | rfl | (exfalso; omega))
              exact W.iret hx hb hr (fun t ht _ => ⟨_, rfl, (Or.inl ⟨j3, j5, hj3, hj5, by omega, rfl, rfl, by omega, E, rfl⟩), ht⟩) (fun _ h => absurd h List.not_mem_nil) dX4_whyNotPrint_80
      · replace hp12 := mt (pm_in_n (by omega) (by decide) (by decide)).mpr hp12
        refine lv_if_ne (tgt := 21) hx hb dX4_whyNotPrint_15 (by decide) (fun c27 => (c27 (by decide)).elim) (fun _ => ?_)
        refine lv_bipush (v := (-2)) hx hb dX4_whyNotPrint_18 (by decide) ?_
        have E : pm_aPrint S (nI j3) (nI j5) = ((-2), S) := by simp only [pm_aPrint, pm_ix_in hj3 (show (30 : Nat) < 2 ^ 31 by decide), pm_ix_in hj5 (show (4 : Nat) < 2 ^ 31 by decide)] <;> ((repeat' split) <;> first | rfl | (exfalso; omega))
        exact W.iret hx hb hr (fun t ht _ => ⟨_, rfl, (Or.inr ⟨_, E, pm_neg2, rfl⟩), ht⟩) (fun _ h => absurd h List.not_mem_nil) dX4_whyNotPrint_20
  · skip
    refine lv_if_ne (tgt := 9) hx hb dX4_whyNotPrint_4 (by decide) (fun c28 => (c28 (by decide)).elim) (fun _ => ?_)
    refine lv_iconst (v := -1) hx hb dX4_whyNotPrint_7 (by decide) ?_
    have E : pm_aPrint S xf xz = (-1, S) := by simp only [pm_aPrint, pm_ix_out hnj3] <;> ((repeat' split) <;> first | rfl | (exfalso; omega))
    exact W.iret hx hb hr (fun t ht _ => ⟨_, rfl, (Or.inr ⟨_, E, pm_neg1, rfl⟩), ht⟩) (fun _ h => absurd h List.not_mem_nil) dX4_whyNotPrint_8
