/-! ===== what the two fixed rows of the settings hold ===== -/
def pm_lst (j : Nat) : Nat := if j = 1 then 0 else 1
def pm_mst (j : Nat) : Nat := if j = 0 then 3 else if j = 3 then 5 else 9
theorem pm_lst9 (j : Nat) : pm_lst j ≤ 9 := by unfold pm_lst; split <;> omega
theorem pm_mst9 (j : Nat) : pm_mst j ≤ 9 := by unfold pm_mst; split; omega; split <;> omega
def pm_ST (A : Nat → Prop) (tl tm : Nat) (U : State) : Prop := (va_Z "ProofMarks$Sheet" "LEAST_VALUES" "[I" (.ref tl) A U U.heap ∧ va_T .int tl 4 (fun j => .int (nI (pm_lst j))) A U U.heap) ∧ va_Z "ProofMarks$Sheet" "MOST_VALUES" "[I" (.ref tm) A U U.heap ∧ va_T .int tm 4 (fun j => .int (nI (pm_mst j))) A U U.heap
theorem pm_ST.moved {A : Nat → Prop} {tl tm : Nat} {u U : State} (hvm : u.vm.Alike U.vm) (hh : U.heap = u.heap) (h : pm_ST A tl tm u) : pm_ST A tl tm U := by
  obtain ⟨⟨h1, h2⟩, h3, h4⟩ := h
  unfold pm_ST
  rw [hh]
  exact ⟨⟨h1.moved hvm, h2.moved hvm⟩, h3.moved hvm, h4.moved hvm⟩
def pm_wrs (tl tm : Nat) (D : va_G) (tys : List (ClassId × FieldType)) (av : List Value) (w : va_W) : Array Value → State → Prop := va_Pc av (fun U => (va_P D vwCl w U.heap ∧ va_K D vwCl tys U ∧ va_D (fun _ => True) w) ∧ pm_ST (pm_ad w) tl tm U)
theorem pm_wrs_blind {tl tm : Nat} {D : va_G} {tys : List (ClassId × FieldType)} {av : List Value} {w : va_W} : FrameBlind (pm_wrs tl tm D tys av w) := fun _ U g mk q => ⟨q.1, ⟨q.2.1.1, va_K.moved (u := U) (U := U.calling g mk _) (Vm.Alike.refl U.vm) q.2.1.2.1, q.2.1.2.2⟩, pm_ST.moved (u := U) (U := U.calling g mk _) (Vm.Alike.refl U.vm) rfl q.2.2⟩
theorem pm_wrs_pre {tl tm : Nat} {D : va_G} {tys : List (ClassId × FieldType)} {av : List Value} {w : va_W} {s : State} {H H0 : Heap} {locs : List Loc} {A B : Nat → Prop} (hP : va_P D vwCl w H) (hK : va_K D vwCl tys s) (hD : va_D A w) (hA : ∀ q, A q → B q) (hS : va_S B s.heap H locs) (hT : pm_ST B tl tm s) : ∀ U : State, U.heap = H → s.WarmedH U.vm → pm_wrs tl tm D tys av w av.toArray U := fun U hU hW => by
  have hn : ∀ q, pm_ad w q → B q := fun q h => hA q (pm_ad_all hD q h)
  obtain ⟨⟨h1, h2⟩, h3, h4⟩ := hT
  refine ⟨rfl, ⟨by rw [hU]; exact hP, va_K.moved hW.alike hK, hD.weaken (fun _ _ _ _ => trivial)⟩, ?_⟩
  unfold pm_ST
  rw [hU]
  exact ⟨⟨((h1.kept hS.2.1).narrow hn).moved hW.alike, ((h2.kept hS.2.1).narrow hn).moved hW.alike⟩, ((h3.kept hS.2.1).narrow hn).moved hW.alike, ((h4.kept hS.2.1).narrow hn).moved hW.alike⟩
theorem pm_ld_lt {x : Int32} {n : Nat} (h : x < 0 ∨ nI n ≤ x) (hn : n < 2 ^ 31) (h1 : ¬ x < 0) (h2 : x < nI n) : False := by
  rcases h with h | h
  · exact h1 h
  · have b := Int32.le_iff_toInt_le.mp h
    have a := Int32.lt_iff_toInt_lt.mp h2
    omega
theorem pm_ld_2 {x : Int32} {n a b : Nat} (h : x < 0 ∨ nI n ≤ x) (hn : n < 2 ^ 31) (h1 : ¬ x < nI a) (h2 : x ≤ nI b) (ha : a < 2 ^ 31) (hb : b < n) : False := by
  have b2 := Int32.le_iff_toInt_le.mp h2
  have a1 : ¬ (x.toInt < (nI a).toInt) := fun z => h1 (Int32.lt_iff_toInt_lt.mpr z)
  rw [nI_toInt (by omega)] at b2
  rw [nI_toInt ha] at a1
  rcases h with h | h
  · have c := Int32.lt_iff_toInt_lt.mp h
    have d : (0 : Int32).toInt = 0 := rfl
    rw [d] at c
    omega
  · have c := Int32.le_iff_toInt_le.mp h
    rw [nI_toInt hn] at c
    omega

set_option maxHeartbeats 4000000 in
set_option maxRecDepth 100000 in
theorem k_X2_changeSetting (l : Launch) (D : va_G) (y : Nat → ClassId) (q : Nat → Nat) (S : Nat → Nat → Nat) (tl tm : Nat) (xk xv : Int32) (hI : pm_Inv S) : Met l yX2_changeSetting wsX2_changeSetting ({ frames := 0, cells := 0, slots := 0, locals := 0 } : Room) (pm_wrs tl tm D (pm_ty y) [.ref (q 0), .int xk, .int xv] (pm_shS y q S)) (pm_Qi D (fun (r : Int32) (_ : Unit) => r = (pm_aSet S xk xv).1) (fun (_ : Unit) => pm_shS y q (pm_aSet S xk xv).2) (pm_shS y q S)) 0 0 (pm_ad (pm_shS y q S)) := by
  refine Met.ofW (cc := cX2_changeSetting) (maxL := 4) (ret := (some .int)) (by decide) rfl ?_
  intro p e s m args below meth c s₁ B hml hpre
  obtain ⟨rfl, ⟨hP, hK, hD0⟩, hT⟩ := hpre
  have hx := B.exec
  have hb := B.bytes
  have hr := B.returns
  have hts := atoms_spec (ws := wsX2_changeSetting) B.pre
  have hown : s.vm.findClass RX2 = some m.cls := findClass_of_methodNamed B.named
  have hlocks := B.notSynchronized
  have hin2 : ∀ w ∈ u_ws RX2 TX2 15, w ∈ wsX2_changeSetting := fun w h => List.mem_cons_of_mem _ (List.mem_append_right _ h)
  have hD := pm_ad_self hD0
  have hS : va_S (pm_ad (pm_shS y q S)) s.heap s.heap [] := va_S.rf
  have hP : va_P D vwCl (pm_shS y q S) s.heap := hP
  have hl := lv_entry ([.ref (q 0), .int xk, .int xv]) (n := 4) (Nat.le_of_ble_eq_true rfl)
  rw [lg_entry_eq]
  generalize (lg_sl ([.ref (q 0), .int xk, .int xv]) ++ List.replicate (4 - (lg_sl ([.ref (q 0), .int xk, .int xv])).length) Slot.unset).toArray = ls at hl ⊢
  have hl : lv_has ls 4 [(0, .ref (q 0)), (1, .int xk), (2, .int xv)] := hl
  rcases pm_cases xk (n := 4) (by decide) with hnj1 | ⟨j1, hj1, rfl⟩
  · skip
    refine lv_iload_n hx hb dX2_changeSetting_0 rfl (lv_at hl 1 rfl) ?_
    refine lv_if_lt (tgt := 13) hx hb dX2_changeSetting_1 (by decide) (fun c2 => ?_) (fun c2 => ?_)
    · skip
      refine lv_bipush (v := (-2)) hx hb dX2_changeSetting_13 (by decide) ?_
      have E : pm_aSet S xk xv = ((-2), S) := by simp only [pm_aSet, pm_ix_out hnj1]
      exact W.iret hx hb hr (fun t ht _ => ⟨⟨_, (), rfl, (by rw [E]), (by show va_P D vwCl (pm_shS y q (pm_aSet S xk xv).2) t.heap; rw [ht]; exact (by rw [E]; exact hP))⟩, hS.F ht⟩) hS.2.2 dX2_changeSetting_15
    · skip
      refine lv_iload_n hx hb dX2_changeSetting_4 rfl (lv_at hl 1 rfl) ?_
      refine lv_aload_n hx hb dX2_changeSetting_5 rfl (lv_at hl 0 rfl) ?_
      refine va_get (D := D) (ci := 2) (v := .ref (q 1)) (C := RX2) (T := TX2) (N := 15) hx hb hts hin2 hown hK hP 0 rfl rfl 0 (by decide) (hts (.fieldLink RX2 11 "ProofMarks$Sheet" "settings" "[I") (List.mem_of_getElem? (i := 1) rfl)) (fun _ h9 => h9) rfl dX2_changeSetting_6 ?_
      refine va_alen (v := nI 4) hx hb hK hP 1 0 rfl rfl rfl dX2_changeSetting_9 ?_
      refine lv_icmp_lt (tgt := 16) hx hb dX2_changeSetting_10 (by decide) (fun c3 => by exfalso; exact pm_ld_lt hnj1 (by decide) (by assumption) (by assumption)) (fun c3 => ?_)
      refine lv_bipush (v := (-2)) hx hb dX2_changeSetting_13 (by decide) ?_
      have E : pm_aSet S xk xv = ((-2), S) := by simp only [pm_aSet, pm_ix_out hnj1]
      exact W.iret hx hb hr (fun t ht _ => ⟨⟨_, (), rfl, (by rw [E]), (by show va_P D vwCl (pm_shS y q (pm_aSet S xk xv).2) t.heap; rw [ht]; exact (by rw [E]; exact hP))⟩, hS.F ht⟩) hS.2.2 dX2_changeSetting_15
  · skip
    refine lv_iload_n hx hb dX2_changeSetting_0 rfl (lv_at hl 1 rfl) ?_
    refine kx_if_lt (tgt := 13) hx hb (by omega) dX2_changeSetting_1 (by decide) ?_
    refine lv_iload_n hx hb dX2_changeSetting_4 rfl (lv_at hl 1 rfl) ?_
    refine lv_aload_n hx hb dX2_changeSetting_5 rfl (lv_at hl 0 rfl) ?_
    refine va_get (D := D) (ci := 2) (v := .ref (q 1)) (C := RX2) (T := TX2) (N := 15) hx hb hts hin2 hown hK hP 0 rfl rfl 0 (by decide) (hts (.fieldLink RX2 11 "ProofMarks$Sheet" "settings" "[I") (List.mem_of_getElem? (i := 1) rfl)) (fun _ h9 => h9) rfl dX2_changeSetting_6 ?_
    refine va_alen (v := nI 4) hx hb hK hP 1 0 rfl rfl rfl dX2_changeSetting_9 ?_
    refine kx_icmp_lt (tgt := 16) hx hb (by omega) (by decide) dX2_changeSetting_10 (by decide) (fun c4 => ?_) (fun c4 => by exfalso; omega)
    rcases pm_cases xv (n := 10) (by decide) with hnj5 | ⟨j5, hj5, rfl⟩
    · skip
      refine lv_iload_n hx hb dX2_changeSetting_16 rfl (lv_at hl 2 rfl) ?_
      refine va_gets hx hb hT.1.1 hS hown (hts (.fieldLink RX2 64 "ProofMarks$Sheet" "LEAST_VALUES" "[I") (List.mem_of_getElem? (i := 2) rfl)) (fun _ h9 => h9) dX2_changeSetting_17 ?_
      refine lv_iload_n hx hb dX2_changeSetting_20 rfl (lv_at hl 1 rfl) ?_
      refine va_ti (v := .int (nI (pm_lst j1))) hx hb hT.1.2 hS (vp_in_nI (by omega) (by decide)) (congrArg (fun z => Value.int (nI (pm_lst z))) (nI_clamp (by omega))) dX2_changeSetting_21 ?_
      have := pm_lst9 j1
      refine lv_icmp_lt (tgt := 34) hx hb dX2_changeSetting_22 (by decide) (fun c6 => ?_) (fun c6 => ?_)
      · skip
        refine lv_bipush (v := (-2)) hx hb dX2_changeSetting_34 (by decide) ?_
        have E : pm_aSet S (nI j1) xv = ((-2), S) := by simp only [pm_aSet, pm_ix_in hj1 (show (4 : Nat) < 2 ^ 31 by decide), pm_ix_out hnj5]
        exact W.iret hx hb hr (fun t ht _ => ⟨⟨_, (), rfl, (by rw [E]), (by show va_P D vwCl (pm_shS y q (pm_aSet S (nI j1) xv).2) t.heap; rw [ht]; exact (by rw [E]; exact hP))⟩, hS.F ht⟩) hS.2.2 dX2_changeSetting_36
      · skip
        refine lv_iload_n hx hb dX2_changeSetting_25 rfl (lv_at hl 2 rfl) ?_
        refine va_gets hx hb hT.2.1 hS hown (hts (.fieldLink RX2 67 "ProofMarks$Sheet" "MOST_VALUES" "[I") (List.mem_of_getElem? (i := 3) rfl)) (fun _ h9 => h9) dX2_changeSetting_26 ?_
        refine lv_iload_n hx hb dX2_changeSetting_29 rfl (lv_at hl 1 rfl) ?_
        refine va_ti (v := .int (nI (pm_mst j1))) hx hb hT.2.2 hS (vp_in_nI (by omega) (by decide)) (congrArg (fun z => Value.int (nI (pm_mst z))) (nI_clamp (by omega))) dX2_changeSetting_30 ?_
        have := pm_mst9 j1
        refine lv_icmp_le (tgt := 37) hx hb dX2_changeSetting_31 (by decide) (fun c7 => by exfalso; exact pm_ld_2 hnj5 (by decide) (by assumption) (by assumption) (by omega) (by omega)) (fun c7 => ?_)
        refine lv_bipush (v := (-2)) hx hb dX2_changeSetting_34 (by decide) ?_
        have E : pm_aSet S (nI j1) xv = ((-2), S) := by simp only [pm_aSet, pm_ix_in hj1 (show (4 : Nat) < 2 ^ 31 by decide), pm_ix_out hnj5]
        exact W.iret hx hb hr (fun t ht _ => ⟨⟨_, (), rfl, (by rw [E]), (by show va_P D vwCl (pm_shS y q (pm_aSet S (nI j1) xv).2) t.heap; rw [ht]; exact (by rw [E]; exact hP))⟩, hS.F ht⟩) hS.2.2 dX2_changeSetting_36
    · skip
      refine lv_iload_n hx hb dX2_changeSetting_16 rfl (lv_at hl 2 rfl) ?_
      refine va_gets hx hb hT.1.1 hS hown (hts (.fieldLink RX2 64 "ProofMarks$Sheet" "LEAST_VALUES" "[I") (List.mem_of_getElem? (i := 2) rfl)) (fun _ h9 => h9) dX2_changeSetting_17 ?_
      refine lv_iload_n hx hb dX2_changeSetting_20 rfl (lv_at hl 1 rfl) ?_
      refine va_ti (v := .int (nI (pm_lst j1))) hx hb hT.1.2 hS (vp_in_nI (by omega) (by decide)) (congrArg (fun z => Value.int (nI (pm_lst z))) (nI_clamp (by omega))) dX2_changeSetting_21 ?_
      have := pm_lst9 j1
      refine kx_icmp_lt (tgt := 34) hx hb (by omega) (by omega) dX2_changeSetting_22 (by decide) (fun c8 => ?_) (fun c8 => ?_)
      · skip
        refine lv_bipush (v := (-2)) hx hb dX2_changeSetting_34 (by decide) ?_
        have E : pm_aSet S (nI j1) (nI j5) = ((-2), S) := by simp only [pm_aSet, pm_ix_in hj1 (show (4 : Nat) < 2 ^ 31 by decide), pm_ix_in hj5 (show (10 : Nat) < 2 ^ 31 by decide)] <;> first | exact if_pos ⟨by simp only [pm_lst, pm_mst] at *; omega, by simp only [pm_lst, pm_mst] at *; omega⟩ | exact if_neg (fun z => by simp only [pm_lst, pm_mst] at *; omega)
        exact W.iret hx hb hr (fun t ht _ => ⟨⟨_, (), rfl, (by rw [E]), (by show va_P D vwCl (pm_shS y q (pm_aSet S (nI j1) (nI j5)).2) t.heap; rw [ht]; exact (by rw [E]; exact hP))⟩, hS.F ht⟩) hS.2.2 dX2_changeSetting_36
      · skip
        refine lv_iload_n hx hb dX2_changeSetting_25 rfl (lv_at hl 2 rfl) ?_
        refine va_gets hx hb hT.2.1 hS hown (hts (.fieldLink RX2 67 "ProofMarks$Sheet" "MOST_VALUES" "[I") (List.mem_of_getElem? (i := 3) rfl)) (fun _ h9 => h9) dX2_changeSetting_26 ?_
        refine lv_iload_n hx hb dX2_changeSetting_29 rfl (lv_at hl 1 rfl) ?_
        refine va_ti (v := .int (nI (pm_mst j1))) hx hb hT.2.2 hS (vp_in_nI (by omega) (by decide)) (congrArg (fun z => Value.int (nI (pm_mst z))) (nI_clamp (by omega))) dX2_changeSetting_30 ?_
        have := pm_mst9 j1
        refine kx_icmp_le (tgt := 37) hx hb (by omega) (by omega) dX2_changeSetting_31 (by decide) (fun c9 => ?_) (fun c9 => ?_)
        · skip
          refine lv_aload_n hx hb dX2_changeSetting_37 rfl (lv_at hl 0 rfl) ?_
          refine va_get (D := D) (ci := 2) (v := .ref (q 1)) (C := RX2) (T := TX2) (N := 15) hx hb hts hin2 hown hK hP 0 rfl rfl 0 (by decide) (hts (.fieldLink RX2 11 "ProofMarks$Sheet" "settings" "[I") (List.mem_of_getElem? (i := 1) rfl)) (fun _ h9 => h9) rfl dX2_changeSetting_38 ?_
          refine lv_iload_n hx hb dX2_changeSetting_41 rfl (lv_at hl 1 rfl) ?_
          refine kx_iald (v := nI ((S 9) j1)) hx hb hK hP 1 0 rfl rfl (by omega) (by decide) rfl dX2_changeSetting_42 ?_
          have := hI.set9 j1 (by omega)
          refine lv_istore_n (lv' := [(3, .int (nI ((S 9) j1))), (0, .ref (q 0)), (1, .int (nI j1)), (2, .int (nI j5))]) hx hb dX2_changeSetting_43 rfl hl (by decide) rfl (fun ls hl => ?_)
          refine lv_aload_n hx hb dX2_changeSetting_44 rfl (lv_at hl 1 rfl) ?_
          refine va_get (D := D) (ci := 2) (v := .ref (q 1)) (C := RX2) (T := TX2) (N := 15) hx hb hts hin2 hown hK hP 0 rfl rfl 0 (by decide) (hts (.fieldLink RX2 11 "ProofMarks$Sheet" "settings" "[I") (List.mem_of_getElem? (i := 1) rfl)) (fun _ h9 => h9) rfl dX2_changeSetting_45 ?_
          refine lv_iload_n hx hb dX2_changeSetting_48 rfl (lv_at hl 2 rfl) ?_
          refine lv_iload_n hx hb dX2_changeSetting_49 rfl (lv_at hl 3 rfl) ?_
          refine kx_iast (ws' := pm_sh y q (pm_vn (updN (S 9) j1 j5)) (pm_vn (S 0)) (pm_vt (S 4)) (pm_vc (S 4)) (pm_vn (S 1)) (pm_vn (S 2)) (pm_vi (S 3)) (pm_vn (S 5)) (pm_vn (S 6)) (pm_vn (S 7)) (pm_vn (S 8)) (pm_vn (S 11)) (nI (S 10 0)) (nI (S 10 1)) (nI (S 10 2))) hx hb hK hP hD hS 1 0 rfl rfl (by omega) (by decide) (pm_vn_u (S 9) j1 j5) rfl dX2_changeSetting_50 (fun H locs hP hD hS => ?_)
          refine lv_iload_n hx hb dX2_changeSetting_51 rfl (lv_at hl 0 rfl) ?_
          have E : pm_aSet S (nI j1) (nI j5) = (nI ((S 9) j1), pm_st S 9 j1 j5) := by simp only [pm_aSet, pm_ix_in hj1 (show (4 : Nat) < 2 ^ 31 by decide), pm_ix_in hj5 (show (10 : Nat) < 2 ^ 31 by decide)] <;> first | exact if_pos ⟨by simp only [pm_lst, pm_mst] at *; omega, by simp only [pm_lst, pm_mst] at *; omega⟩ | exact if_neg (fun z => by simp only [pm_lst, pm_mst] at *; omega)
          exact W.iret hx hb hr (fun t ht _ => ⟨⟨_, (), rfl, (by rw [E]), (by show va_P D vwCl (pm_shS y q (pm_aSet S (nI j1) (nI j5)).2) t.heap; rw [ht]; exact (by rw [E]; exact hP))⟩, hS.F ht⟩) hS.2.2 dX2_changeSetting_52
        · skip
          refine lv_bipush (v := (-2)) hx hb dX2_changeSetting_34 (by decide) ?_
          have E : pm_aSet S (nI j1) (nI j5) = ((-2), S) := by simp only [pm_aSet, pm_ix_in hj1 (show (4 : Nat) < 2 ^ 31 by decide), pm_ix_in hj5 (show (10 : Nat) < 2 ^ 31 by decide)] <;> first | exact if_pos ⟨by simp only [pm_lst, pm_mst] at *; omega, by simp only [pm_lst, pm_mst] at *; omega⟩ | exact if_neg (fun z => by simp only [pm_lst, pm_mst] at *; omega)
          exact W.iret hx hb hr (fun t ht _ => ⟨⟨_, (), rfl, (by rw [E]), (by show va_P D vwCl (pm_shS y q (pm_aSet S (nI j1) (nI j5)).2) t.heap; rw [ht]; exact (by rw [E]; exact hP))⟩, hS.F ht⟩) hS.2.2 dX2_changeSetting_36

