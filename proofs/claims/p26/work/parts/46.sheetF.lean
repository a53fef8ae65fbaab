/-! ===== one row copied over another of the same length ===== -/
section PMC
variable {p : Program} {l : Launch} {e : Env} {R : Room} {s : State} {m : MethodId} {args : Array Value} {below : List Frame} {meth : Method} {c : Code} {H : Heap} {locs : List Loc} {cells slots : Nat} {Q : State → Prop}
variable {cc : ByteArray} {pc : Nat} {ls : Array Slot} {rest : List Value} {D : va_G} {cl : List vw_C} {A : Nat → Prop} {a : Nat} {tys : List (ClassId × FieldType)} {ws ws' : va_W} {H0 : Heap}
theorem kx_cpy (hx : p.tables.exec = Jvm.exec) (hb : c.code = cc) (hml : c.maxLocals = ls.size) {own : String} {index : Nat} (hown : s.vm.findClass own = some m.cls) (hlink : (Cond.methodLink own index arraycopyName).before args s = true) (hnat : (Cond.native arraycopyName).before args s = true) (hstat : (Cond.static arraycopyName).before args s = true) (hini : (Cond.initialized "java/lang/System").before args s = true)
    (hK : va_K D cl tys s) (hP : va_P D cl ws H) (hD : va_D A ws) (hS : va_S A H0 H locs) (q0 q1 : Nat) {a0 : Nat} {cI : ClassId} {n : Nat} {f g : Nat → Int32} (ha0 : ws[q0]? = some (a0, .inl (cI, n, .inl f))) (ha1 : ws[q1]? = some (a, .inl (cI, n, .inl g))) (ht : tys[0]? = some (cI, .int)) (hn : n < 2 ^ 31) (hw : ws.set q1 (a, .inl (cI, n, .inl f)) = ws')
    (hframes : 1 ≤ R.frames) (hlocals : (rest.map fun v => v.category).sum + (nativeFrameWords "java/lang/System" "arraycopy" 5 + 11) ≤ R.locals) (hdg : decode cc pc = .ok (.invokestatic index, 3))
    (kk : ∀ (H1 : Heap) (locs1 : List Loc), va_P D cl ws' H1 → va_D A ws' → va_S A H0 H1 locs1 → W p l e R s m args below meth c H1 locs1 cells slots Q (F0 m (pc + 3) ls rest)) : W p l e R s m args below meth c H locs cells slots Q (F0 m pc ls (.int (nI n) :: .int (nI 0) :: .ref a :: .int (nI 0) :: .ref a0 :: rest)) := by
  have e0 : (nI 0).toNatClampNeg = 0 := nI_clamp (by decide)
  have en : (nI n).toNatClampNeg = n := nI_clamp hn
  have hneg : ∀ k : Nat, k < 2 ^ 31 → ¬ nI k < 0 := fun k hk z => by
    have z1 := Int32.lt_iff_toInt_lt.mp z
    rw [nI_toInt hk] at z1
    have d : (0 : Int32).toInt = 0 := rfl
    rw [d] at z1
    omega
  have hl := (List.getElem?_eq_some_iff.mp ha1).1
  refine va_copyi hx hb hml hown hlink hnat hstat hini hK hP hD hS q0 q1 0 0 ha0 ha1 ht ht rfl (hneg 0 (by decide)) (hneg 0 (by decide)) (hneg n hn) (by rw [e0, en]; omega) (by rw [e0, en]; omega) (fun _ _ => rfl) hframes hlocals hdg (fun H1 l1 hP1 hD1 hS1 => kk H1 l1 ?_ (hw ▸ hD.set ha1) hS1)
  rw [e0, en] at hP1
  exact pm_P_arr q1 hP1 (List.getElem?_set_self hl) (fun j hj => sb_cpy0 hj) (by rw [List.set_set]; exact hw)
end PMC
set_option maxHeartbeats 4000000 in
set_option maxRecDepth 100000 in
theorem k_X2_takeOver (l : Launch) (D : va_G) (y : Nat → ClassId) (q q2 : Nat → Nat) (S T : Nat → Nat → Nat)  : Met l yX2_takeOver wsX2_takeOver ({ frames := 1, cells := 0, slots := 0, locals := 18 } : Room) (pm_wr D (pm_ty y) [.ref (q 0), .ref (q2 0)] (pm_shS y q S ++ pm_shS y q2 T)) (pm_Qv D (fun (_ : Unit) => True) (fun (_ : Unit) => pm_shS y q T ++ pm_shS y q2 T) (pm_shS y q S ++ pm_shS y q2 T)) 0 0 (pm_ad (pm_shS y q S ++ pm_shS y q2 T)) := by
  refine Met.ofW (cc := cX2_takeOver) (maxL := 2) (ret := none) (by decide) rfl ?_
  intro p e s m args below meth c s₁ B hml hpre
  obtain ⟨rfl, hP, hK, hD0⟩ := hpre
  have hx := B.exec
  have hb := B.bytes
  have hr := B.returns
  have hts := atoms_spec (ws := wsX2_takeOver) B.pre
  have hown : s.vm.findClass RX2 = some m.cls := findClass_of_methodNamed B.named
  have hlocks := B.notSynchronized
  have hin2 : ∀ w ∈ u_ws RX2 TX2 15, w ∈ wsX2_takeOver := fun w h => List.mem_cons_of_mem _ (List.mem_append_right _ h)
  have hD := pm_ad_self hD0
  have hS : va_S (pm_ad (pm_shS y q S ++ pm_shS y q2 T)) s.heap s.heap [] := va_S.rf
  have hP : va_P D vwCl (pm_shS y q S ++ pm_shS y q2 T) s.heap := hP
  have hl := lv_entry ([.ref (q 0), .ref (q2 0)]) (n := 2) (Nat.le_of_ble_eq_true rfl)
  rw [lg_entry_eq]
  generalize (lg_sl ([.ref (q 0), .ref (q2 0)]) ++ List.replicate (2 - (lg_sl ([.ref (q 0), .ref (q2 0)])).length) Slot.unset).toArray = ls at hl ⊢
  have hl : lv_has ls 2 [(0, .ref (q 0)), (1, .ref (q2 0))] := hl
  refine lv_aload_n hx hb dX2_takeOver_0 rfl (lv_at hl 1 rfl) ?_
  refine va_get (D := D) (ci := 2) (v := .ref (q2 1)) (C := RX2) (T := TX2) (N := 15) hx hb hts hin2 hown hK hP 13 rfl rfl 0 (by decide) (hts (.fieldLink RX2 11 "ProofMarks$Sheet" "settings" "[I") (List.mem_of_getElem? (i := 1) rfl)) (fun _ h9 => h9) rfl dX2_takeOver_1 ?_
  refine lv_iconst (v := nI 0) hx hb dX2_takeOver_4 (by decide) ?_
  refine lv_aload_n hx hb dX2_takeOver_5 rfl (lv_at hl 0 rfl) ?_
  refine va_get (D := D) (ci := 2) (v := .ref (q 1)) (C := RX2) (T := TX2) (N := 15) hx hb hts hin2 hown hK hP 0 rfl rfl 0 (by decide) (hts (.fieldLink RX2 11 "ProofMarks$Sheet" "settings" "[I") (List.mem_of_getElem? (i := 1) rfl)) (fun _ h9 => h9) rfl dX2_takeOver_6 ?_
  refine lv_iconst (v := nI 0) hx hb dX2_takeOver_9 (by decide) ?_
  refine lv_aload_n hx hb dX2_takeOver_10 rfl (lv_at hl 0 rfl) ?_
  refine va_get (D := D) (ci := 2) (v := .ref (q 1)) (C := RX2) (T := TX2) (N := 15) hx hb hts hin2 hown hK hP 0 rfl rfl 0 (by decide) (hts (.fieldLink RX2 11 "ProofMarks$Sheet" "settings" "[I") (List.mem_of_getElem? (i := 1) rfl)) (fun _ h9 => h9) rfl dX2_takeOver_11 ?_
  refine va_alen (v := nI 4) hx hb hK hP 1 0 rfl rfl rfl dX2_takeOver_14 ?_
  refine kx_cpy (ws' := pm_sh y q (pm_vn (T 9)) (pm_vn (S 0)) (pm_vt (S 4)) (pm_vc (S 4)) (pm_vn (S 1)) (pm_vn (S 2)) (pm_vi (S 3)) (pm_vn (S 5)) (pm_vn (S 6)) (pm_vn (S 7)) (pm_vn (S 8)) (pm_vn (S 11)) (nI (S 10 0)) (nI (S 10 1)) (nI (S 10 2)) ++ pm_shS y q2 T) hx hb (by rw [hml]; exact hl.1.symm) hown (hts (.methodLink RX2 58 arraycopyName) (List.mem_of_getElem? (i := 2) rfl)) (hts (.native arraycopyName) (List.mem_of_getElem? (i := 3) rfl)) (hts (.static arraycopyName) (List.mem_of_getElem? (i := 4) rfl)) (hts (.initialized "java/lang/System") (List.mem_of_getElem? (i := 5) rfl)) hK hP hD hS 14 1 rfl rfl rfl (by decide) rfl (Nat.le_of_ble_eq_true rfl) (Nat.le_of_ble_eq_true rfl) dX2_takeOver_15 (fun H locs hP hD hS => ?_)
  refine lv_aload_n hx hb dX2_takeOver_18 rfl (lv_at hl 1 rfl) ?_
  refine va_get (D := D) (ci := 2) (v := .ref (q2 2)) (C := RX2) (T := TX2) (N := 15) hx hb hts hin2 hown hK hP 13 rfl rfl 1 (by decide) (hts (.fieldLink RX2 15 "ProofMarks$Sheet" "how" "[I") (List.mem_of_getElem? (i := 6) rfl)) (fun _ h9 => h9) rfl dX2_takeOver_19 ?_
  refine lv_iconst (v := nI 0) hx hb dX2_takeOver_22 (by decide) ?_
  refine lv_aload_n hx hb dX2_takeOver_23 rfl (lv_at hl 0 rfl) ?_
  refine va_get (D := D) (ci := 2) (v := .ref (q 2)) (C := RX2) (T := TX2) (N := 15) hx hb hts hin2 hown hK hP 0 rfl rfl 1 (by decide) (hts (.fieldLink RX2 15 "ProofMarks$Sheet" "how" "[I") (List.mem_of_getElem? (i := 6) rfl)) (fun _ h9 => h9) rfl dX2_takeOver_24 ?_
  refine lv_iconst (v := nI 0) hx hb dX2_takeOver_27 (by decide) ?_
  refine lv_bipush (v := nI 30) hx hb dX2_takeOver_28 (by decide) ?_
  refine kx_cpy (ws' := pm_sh y q (pm_vn (T 9)) (pm_vn (T 0)) (pm_vt (S 4)) (pm_vc (S 4)) (pm_vn (S 1)) (pm_vn (S 2)) (pm_vi (S 3)) (pm_vn (S 5)) (pm_vn (S 6)) (pm_vn (S 7)) (pm_vn (S 8)) (pm_vn (S 11)) (nI (S 10 0)) (nI (S 10 1)) (nI (S 10 2)) ++ pm_shS y q2 T) hx hb (by rw [hml]; exact hl.1.symm) hown (hts (.methodLink RX2 58 arraycopyName) (List.mem_of_getElem? (i := 2) rfl)) (hts (.native arraycopyName) (List.mem_of_getElem? (i := 3) rfl)) (hts (.static arraycopyName) (List.mem_of_getElem? (i := 4) rfl)) (hts (.initialized "java/lang/System") (List.mem_of_getElem? (i := 5) rfl)) hK hP hD hS 15 2 rfl rfl rfl (by decide) rfl (Nat.le_of_ble_eq_true rfl) (Nat.le_of_ble_eq_true rfl) dX2_takeOver_30 (fun H locs hP hD hS => ?_)
  refine lv_aload_n hx hb dX2_takeOver_33 rfl (lv_at hl 1 rfl) ?_
  refine va_get (D := D) (ci := 2) (v := .ref (q2 3)) (C := RX2) (T := TX2) (N := 15) hx hb hts hin2 hown hK hP 13 rfl rfl 2 (by decide) (hts (.fieldLink RX2 18 "ProofMarks$Sheet" "ticks" "[I") (List.mem_of_getElem? (i := 7) rfl)) (fun _ h9 => h9) rfl dX2_takeOver_34 ?_
  refine lv_iconst (v := nI 0) hx hb dX2_takeOver_37 (by decide) ?_
  refine lv_aload_n hx hb dX2_takeOver_38 rfl (lv_at hl 0 rfl) ?_
  refine va_get (D := D) (ci := 2) (v := .ref (q 3)) (C := RX2) (T := TX2) (N := 15) hx hb hts hin2 hown hK hP 0 rfl rfl 2 (by decide) (hts (.fieldLink RX2 18 "ProofMarks$Sheet" "ticks" "[I") (List.mem_of_getElem? (i := 7) rfl)) (fun _ h9 => h9) rfl dX2_takeOver_39 ?_
  refine lv_iconst (v := nI 0) hx hb dX2_takeOver_42 (by decide) ?_
  refine lv_bipush (v := nI 30) hx hb dX2_takeOver_43 (by decide) ?_
  refine kx_cpy (ws' := pm_sh y q (pm_vn (T 9)) (pm_vn (T 0)) (pm_vt (T 4)) (pm_vc (S 4)) (pm_vn (S 1)) (pm_vn (S 2)) (pm_vi (S 3)) (pm_vn (S 5)) (pm_vn (S 6)) (pm_vn (S 7)) (pm_vn (S 8)) (pm_vn (S 11)) (nI (S 10 0)) (nI (S 10 1)) (nI (S 10 2)) ++ pm_shS y q2 T) hx hb (by rw [hml]; exact hl.1.symm) hown (hts (.methodLink RX2 58 arraycopyName) (List.mem_of_getElem? (i := 2) rfl)) (hts (.native arraycopyName) (List.mem_of_getElem? (i := 3) rfl)) (hts (.static arraycopyName) (List.mem_of_getElem? (i := 4) rfl)) (hts (.initialized "java/lang/System") (List.mem_of_getElem? (i := 5) rfl)) hK hP hD hS 16 3 rfl rfl rfl (by decide) rfl (Nat.le_of_ble_eq_true rfl) (Nat.le_of_ble_eq_true rfl) dX2_takeOver_45 (fun H locs hP hD hS => ?_)
  refine lv_aload_n hx hb dX2_takeOver_48 rfl (lv_at hl 1 rfl) ?_
  refine va_get (D := D) (ci := 2) (v := .ref (q2 4)) (C := RX2) (T := TX2) (N := 15) hx hb hts hin2 hown hK hP 13 rfl rfl 3 (by decide) (hts (.fieldLink RX2 21 "ProofMarks$Sheet" "crosses" "[I") (List.mem_of_getElem? (i := 8) rfl)) (fun _ h9 => h9) rfl dX2_takeOver_49 ?_
  refine lv_iconst (v := nI 0) hx hb dX2_takeOver_52 (by decide) ?_
  refine lv_aload_n hx hb dX2_takeOver_53 rfl (lv_at hl 0 rfl) ?_
  refine va_get (D := D) (ci := 2) (v := .ref (q 4)) (C := RX2) (T := TX2) (N := 15) hx hb hts hin2 hown hK hP 0 rfl rfl 3 (by decide) (hts (.fieldLink RX2 21 "ProofMarks$Sheet" "crosses" "[I") (List.mem_of_getElem? (i := 8) rfl)) (fun _ h9 => h9) rfl dX2_takeOver_54 ?_
  refine lv_iconst (v := nI 0) hx hb dX2_takeOver_57 (by decide) ?_
  refine lv_bipush (v := nI 30) hx hb dX2_takeOver_58 (by decide) ?_
  refine kx_cpy (ws' := pm_sh y q (pm_vn (T 9)) (pm_vn (T 0)) (pm_vt (T 4)) (pm_vc (T 4)) (pm_vn (S 1)) (pm_vn (S 2)) (pm_vi (S 3)) (pm_vn (S 5)) (pm_vn (S 6)) (pm_vn (S 7)) (pm_vn (S 8)) (pm_vn (S 11)) (nI (S 10 0)) (nI (S 10 1)) (nI (S 10 2)) ++ pm_shS y q2 T) hx hb (by rw [hml]; exact hl.1.symm) hown (hts (.methodLink RX2 58 arraycopyName) (List.mem_of_getElem? (i := 2) rfl)) (hts (.native arraycopyName) (List.mem_of_getElem? (i := 3) rfl)) (hts (.static arraycopyName) (List.mem_of_getElem? (i := 4) rfl)) (hts (.initialized "java/lang/System") (List.mem_of_getElem? (i := 5) rfl)) hK hP hD hS 17 4 rfl rfl rfl (by decide) rfl (Nat.le_of_ble_eq_true rfl) (Nat.le_of_ble_eq_true rfl) dX2_takeOver_60 (fun H locs hP hD hS => ?_)
  refine lv_aload_n hx hb dX2_takeOver_63 rfl (lv_at hl 1 rfl) ?_
  refine va_get (D := D) (ci := 2) (v := .ref (q2 5)) (C := RX2) (T := TX2) (N := 15) hx hb hts hin2 hown hK hP 13 rfl rfl 4 (by decide) (hts (.fieldLink RX2 24 "ProofMarks$Sheet" "dull" "[I") (List.mem_of_getElem? (i := 9) rfl)) (fun _ h9 => h9) rfl dX2_takeOver_64 ?_
  refine lv_iconst (v := nI 0) hx hb dX2_takeOver_67 (by decide) ?_
  refine lv_aload_n hx hb dX2_takeOver_68 rfl (lv_at hl 0 rfl) ?_
  refine va_get (D := D) (ci := 2) (v := .ref (q 5)) (C := RX2) (T := TX2) (N := 15) hx hb hts hin2 hown hK hP 0 rfl rfl 4 (by decide) (hts (.fieldLink RX2 24 "ProofMarks$Sheet" "dull" "[I") (List.mem_of_getElem? (i := 9) rfl)) (fun _ h9 => h9) rfl dX2_takeOver_69 ?_
  refine lv_iconst (v := nI 0) hx hb dX2_takeOver_72 (by decide) ?_
  refine lv_bipush (v := nI 30) hx hb dX2_takeOver_73 (by decide) ?_
  refine kx_cpy (ws' := pm_sh y q (pm_vn (T 9)) (pm_vn (T 0)) (pm_vt (T 4)) (pm_vc (T 4)) (pm_vn (T 1)) (pm_vn (S 2)) (pm_vi (S 3)) (pm_vn (S 5)) (pm_vn (S 6)) (pm_vn (S 7)) (pm_vn (S 8)) (pm_vn (S 11)) (nI (S 10 0)) (nI (S 10 1)) (nI (S 10 2)) ++ pm_shS y q2 T) hx hb (by rw [hml]; exact hl.1.symm) hown (hts (.methodLink RX2 58 arraycopyName) (List.mem_of_getElem? (i := 2) rfl)) (hts (.native arraycopyName) (List.mem_of_getElem? (i := 3) rfl)) (hts (.static arraycopyName) (List.mem_of_getElem? (i := 4) rfl)) (hts (.initialized "java/lang/System") (List.mem_of_getElem? (i := 5) rfl)) hK hP hD hS 18 5 rfl rfl rfl (by decide) rfl (Nat.le_of_ble_eq_true rfl) (Nat.le_of_ble_eq_true rfl) dX2_takeOver_75 (fun H locs hP hD hS => ?_)
  refine lv_aload_n hx hb dX2_takeOver_78 rfl (lv_at hl 1 rfl) ?_
  refine va_get (D := D) (ci := 2) (v := .ref (q2 6)) (C := RX2) (T := TX2) (N := 15) hx hb hts hin2 hown hK hP 13 rfl rfl 5 (by decide) (hts (.fieldLink RX2 27 "ProofMarks$Sheet" "sizes" "[I") (List.mem_of_getElem? (i := 10) rfl)) (fun _ h9 => h9) rfl dX2_takeOver_79 ?_
  refine lv_iconst (v := nI 0) hx hb dX2_takeOver_82 (by decide) ?_
  refine lv_aload_n hx hb dX2_takeOver_83 rfl (lv_at hl 0 rfl) ?_
  refine va_get (D := D) (ci := 2) (v := .ref (q 6)) (C := RX2) (T := TX2) (N := 15) hx hb hts hin2 hown hK hP 0 rfl rfl 5 (by decide) (hts (.fieldLink RX2 27 "ProofMarks$Sheet" "sizes" "[I") (List.mem_of_getElem? (i := 10) rfl)) (fun _ h9 => h9) rfl dX2_takeOver_84 ?_
  refine lv_iconst (v := nI 0) hx hb dX2_takeOver_87 (by decide) ?_
  refine lv_bipush (v := nI 30) hx hb dX2_takeOver_88 (by decide) ?_
  refine kx_cpy (ws' := pm_sh y q (pm_vn (T 9)) (pm_vn (T 0)) (pm_vt (T 4)) (pm_vc (T 4)) (pm_vn (T 1)) (pm_vn (T 2)) (pm_vi (S 3)) (pm_vn (S 5)) (pm_vn (S 6)) (pm_vn (S 7)) (pm_vn (S 8)) (pm_vn (S 11)) (nI (S 10 0)) (nI (S 10 1)) (nI (S 10 2)) ++ pm_shS y q2 T) hx hb (by rw [hml]; exact hl.1.symm) hown (hts (.methodLink RX2 58 arraycopyName) (List.mem_of_getElem? (i := 2) rfl)) (hts (.native arraycopyName) (List.mem_of_getElem? (i := 3) rfl)) (hts (.static arraycopyName) (List.mem_of_getElem? (i := 4) rfl)) (hts (.initialized "java/lang/System") (List.mem_of_getElem? (i := 5) rfl)) hK hP hD hS 19 6 rfl rfl rfl (by decide) rfl (Nat.le_of_ble_eq_true rfl) (Nat.le_of_ble_eq_true rfl) dX2_takeOver_90 (fun H locs hP hD hS => ?_)
  refine lv_aload_n hx hb dX2_takeOver_93 rfl (lv_at hl 1 rfl) ?_
  refine va_get (D := D) (ci := 2) (v := .ref (q2 7)) (C := RX2) (T := TX2) (N := 15) hx hb hts hin2 hown hK hP 13 rfl rfl 6 (by decide) (hts (.fieldLink RX2 30 "ProofMarks$Sheet" "chosenIn" "[I") (List.mem_of_getElem? (i := 11) rfl)) (fun _ h9 => h9) rfl dX2_takeOver_94 ?_
  refine lv_iconst (v := nI 0) hx hb dX2_takeOver_97 (by decide) ?_
  refine lv_aload_n hx hb dX2_takeOver_98 rfl (lv_at hl 0 rfl) ?_
  refine va_get (D := D) (ci := 2) (v := .ref (q 7)) (C := RX2) (T := TX2) (N := 15) hx hb hts hin2 hown hK hP 0 rfl rfl 6 (by decide) (hts (.fieldLink RX2 30 "ProofMarks$Sheet" "chosenIn" "[I") (List.mem_of_getElem? (i := 11) rfl)) (fun _ h9 => h9) rfl dX2_takeOver_99 ?_
  refine lv_iconst (v := nI 0) hx hb dX2_takeOver_102 (by decide) ?_
  refine lv_bipush (v := nI 30) hx hb dX2_takeOver_103 (by decide) ?_
  refine kx_cpy (ws' := pm_sh y q (pm_vn (T 9)) (pm_vn (T 0)) (pm_vt (T 4)) (pm_vc (T 4)) (pm_vn (T 1)) (pm_vn (T 2)) (pm_vi (T 3)) (pm_vn (S 5)) (pm_vn (S 6)) (pm_vn (S 7)) (pm_vn (S 8)) (pm_vn (S 11)) (nI (S 10 0)) (nI (S 10 1)) (nI (S 10 2)) ++ pm_shS y q2 T) hx hb (by rw [hml]; exact hl.1.symm) hown (hts (.methodLink RX2 58 arraycopyName) (List.mem_of_getElem? (i := 2) rfl)) (hts (.native arraycopyName) (List.mem_of_getElem? (i := 3) rfl)) (hts (.static arraycopyName) (List.mem_of_getElem? (i := 4) rfl)) (hts (.initialized "java/lang/System") (List.mem_of_getElem? (i := 5) rfl)) hK hP hD hS 20 7 rfl rfl rfl (by decide) rfl (Nat.le_of_ble_eq_true rfl) (Nat.le_of_ble_eq_true rfl) dX2_takeOver_105 (fun H locs hP hD hS => ?_)
  refine lv_aload_n hx hb dX2_takeOver_108 rfl (lv_at hl 1 rfl) ?_
  refine va_get (D := D) (ci := 2) (v := .ref (q2 8)) (C := RX2) (T := TX2) (N := 15) hx hb hts hin2 hown hK hP 13 rfl rfl 7 (by decide) (hts (.fieldLink RX2 33 "ProofMarks$Sheet" "points" "[I") (List.mem_of_getElem? (i := 12) rfl)) (fun _ h9 => h9) rfl dX2_takeOver_109 ?_
  refine lv_iconst (v := nI 0) hx hb dX2_takeOver_112 (by decide) ?_
  refine lv_aload_n hx hb dX2_takeOver_113 rfl (lv_at hl 0 rfl) ?_
  refine va_get (D := D) (ci := 2) (v := .ref (q 8)) (C := RX2) (T := TX2) (N := 15) hx hb hts hin2 hown hK hP 0 rfl rfl 7 (by decide) (hts (.fieldLink RX2 33 "ProofMarks$Sheet" "points" "[I") (List.mem_of_getElem? (i := 12) rfl)) (fun _ h9 => h9) rfl dX2_takeOver_114 ?_
  refine lv_iconst (v := nI 0) hx hb dX2_takeOver_117 (by decide) ?_
  refine lv_iconst (v := nI 3) hx hb dX2_takeOver_118 (by decide) ?_
  refine kx_cpy (ws' := pm_sh y q (pm_vn (T 9)) (pm_vn (T 0)) (pm_vt (T 4)) (pm_vc (T 4)) (pm_vn (T 1)) (pm_vn (T 2)) (pm_vi (T 3)) (pm_vn (T 5)) (pm_vn (S 6)) (pm_vn (S 7)) (pm_vn (S 8)) (pm_vn (S 11)) (nI (S 10 0)) (nI (S 10 1)) (nI (S 10 2)) ++ pm_shS y q2 T) hx hb (by rw [hml]; exact hl.1.symm) hown (hts (.methodLink RX2 58 arraycopyName) (List.mem_of_getElem? (i := 2) rfl)) (hts (.native arraycopyName) (List.mem_of_getElem? (i := 3) rfl)) (hts (.static arraycopyName) (List.mem_of_getElem? (i := 4) rfl)) (hts (.initialized "java/lang/System") (List.mem_of_getElem? (i := 5) rfl)) hK hP hD hS 21 8 rfl rfl rfl (by decide) rfl (Nat.le_of_ble_eq_true rfl) (Nat.le_of_ble_eq_true rfl) dX2_takeOver_119 (fun H locs hP hD hS => ?_)
  refine lv_aload_n hx hb dX2_takeOver_122 rfl (lv_at hl 1 rfl) ?_
  refine va_get (D := D) (ci := 2) (v := .ref (q2 9)) (C := RX2) (T := TX2) (N := 15) hx hb hts hin2 hown hK hP 13 rfl rfl 8 (by decide) (hts (.fieldLink RX2 36 "ProofMarks$Sheet" "arguments" "[I") (List.mem_of_getElem? (i := 13) rfl)) (fun _ h9 => h9) rfl dX2_takeOver_123 ?_
  refine lv_iconst (v := nI 0) hx hb dX2_takeOver_126 (by decide) ?_
  refine lv_aload_n hx hb dX2_takeOver_127 rfl (lv_at hl 0 rfl) ?_
  refine va_get (D := D) (ci := 2) (v := .ref (q 9)) (C := RX2) (T := TX2) (N := 15) hx hb hts hin2 hown hK hP 0 rfl rfl 8 (by decide) (hts (.fieldLink RX2 36 "ProofMarks$Sheet" "arguments" "[I") (List.mem_of_getElem? (i := 13) rfl)) (fun _ h9 => h9) rfl dX2_takeOver_128 ?_
  refine lv_iconst (v := nI 0) hx hb dX2_takeOver_131 (by decide) ?_
  refine lv_iconst (v := nI 3) hx hb dX2_takeOver_132 (by decide) ?_
  refine kx_cpy (ws' := pm_sh y q (pm_vn (T 9)) (pm_vn (T 0)) (pm_vt (T 4)) (pm_vc (T 4)) (pm_vn (T 1)) (pm_vn (T 2)) (pm_vi (T 3)) (pm_vn (T 5)) (pm_vn (T 6)) (pm_vn (S 7)) (pm_vn (S 8)) (pm_vn (S 11)) (nI (S 10 0)) (nI (S 10 1)) (nI (S 10 2)) ++ pm_shS y q2 T) hx hb (by rw [hml]; exact hl.1.symm) hown (hts (.methodLink RX2 58 arraycopyName) (List.mem_of_getElem? (i := 2) rfl)) (hts (.native arraycopyName) (List.mem_of_getElem? (i := 3) rfl)) (hts (.static arraycopyName) (List.mem_of_getElem? (i := 4) rfl)) (hts (.initialized "java/lang/System") (List.mem_of_getElem? (i := 5) rfl)) hK hP hD hS 22 9 rfl rfl rfl (by decide) rfl (Nat.le_of_ble_eq_true rfl) (Nat.le_of_ble_eq_true rfl) dX2_takeOver_133 (fun H locs hP hD hS => ?_)
  refine lv_aload_n hx hb dX2_takeOver_136 rfl (lv_at hl 1 rfl) ?_
  refine va_get (D := D) (ci := 2) (v := .ref (q2 10)) (C := RX2) (T := TX2) (N := 15) hx hb hts hin2 hown hK hP 13 rfl rfl 9 (by decide) (hts (.fieldLink RX2 39 "ProofMarks$Sheet" "lifted" "[I") (List.mem_of_getElem? (i := 14) rfl)) (fun _ h9 => h9) rfl dX2_takeOver_137 ?_
  refine lv_iconst (v := nI 0) hx hb dX2_takeOver_140 (by decide) ?_
  refine lv_aload_n hx hb dX2_takeOver_141 rfl (lv_at hl 0 rfl) ?_
  refine va_get (D := D) (ci := 2) (v := .ref (q 10)) (C := RX2) (T := TX2) (N := 15) hx hb hts hin2 hown hK hP 0 rfl rfl 9 (by decide) (hts (.fieldLink RX2 39 "ProofMarks$Sheet" "lifted" "[I") (List.mem_of_getElem? (i := 14) rfl)) (fun _ h9 => h9) rfl dX2_takeOver_142 ?_
  refine lv_iconst (v := nI 0) hx hb dX2_takeOver_145 (by decide) ?_
  refine lv_iconst (v := nI 3) hx hb dX2_takeOver_146 (by decide) ?_
  refine kx_cpy (ws' := pm_sh y q (pm_vn (T 9)) (pm_vn (T 0)) (pm_vt (T 4)) (pm_vc (T 4)) (pm_vn (T 1)) (pm_vn (T 2)) (pm_vi (T 3)) (pm_vn (T 5)) (pm_vn (T 6)) (pm_vn (T 7)) (pm_vn (S 8)) (pm_vn (S 11)) (nI (S 10 0)) (nI (S 10 1)) (nI (S 10 2)) ++ pm_shS y q2 T) hx hb (by rw [hml]; exact hl.1.symm) hown (hts (.methodLink RX2 58 arraycopyName) (List.mem_of_getElem? (i := 2) rfl)) (hts (.native arraycopyName) (List.mem_of_getElem? (i := 3) rfl)) (hts (.static arraycopyName) (List.mem_of_getElem? (i := 4) rfl)) (hts (.initialized "java/lang/System") (List.mem_of_getElem? (i := 5) rfl)) hK hP hD hS 23 10 rfl rfl rfl (by decide) rfl (Nat.le_of_ble_eq_true rfl) (Nat.le_of_ble_eq_true rfl) dX2_takeOver_147 (fun H locs hP hD hS => ?_)
  refine lv_aload_n hx hb dX2_takeOver_150 rfl (lv_at hl 1 rfl) ?_
  refine va_get (D := D) (ci := 2) (v := .ref (q2 11)) (C := RX2) (T := TX2) (N := 15) hx hb hts hin2 hown hK hP 13 rfl rfl 10 (by decide) (hts (.fieldLink RX2 42 "ProofMarks$Sheet" "favourites" "[I") (List.mem_of_getElem? (i := 15) rfl)) (fun _ h9 => h9) rfl dX2_takeOver_151 ?_
  refine lv_iconst (v := nI 0) hx hb dX2_takeOver_154 (by decide) ?_
  refine lv_aload_n hx hb dX2_takeOver_155 rfl (lv_at hl 0 rfl) ?_
  refine va_get (D := D) (ci := 2) (v := .ref (q 11)) (C := RX2) (T := TX2) (N := 15) hx hb hts hin2 hown hK hP 0 rfl rfl 10 (by decide) (hts (.fieldLink RX2 42 "ProofMarks$Sheet" "favourites" "[I") (List.mem_of_getElem? (i := 15) rfl)) (fun _ h9 => h9) rfl dX2_takeOver_156 ?_
  refine lv_iconst (v := nI 0) hx hb dX2_takeOver_159 (by decide) ?_
  refine lv_iconst (v := nI 3) hx hb dX2_takeOver_160 (by decide) ?_
  refine kx_cpy (ws' := pm_sh y q (pm_vn (T 9)) (pm_vn (T 0)) (pm_vt (T 4)) (pm_vc (T 4)) (pm_vn (T 1)) (pm_vn (T 2)) (pm_vi (T 3)) (pm_vn (T 5)) (pm_vn (T 6)) (pm_vn (T 7)) (pm_vn (T 8)) (pm_vn (S 11)) (nI (S 10 0)) (nI (S 10 1)) (nI (S 10 2)) ++ pm_shS y q2 T) hx hb (by rw [hml]; exact hl.1.symm) hown (hts (.methodLink RX2 58 arraycopyName) (List.mem_of_getElem? (i := 2) rfl)) (hts (.native arraycopyName) (List.mem_of_getElem? (i := 3) rfl)) (hts (.static arraycopyName) (List.mem_of_getElem? (i := 4) rfl)) (hts (.initialized "java/lang/System") (List.mem_of_getElem? (i := 5) rfl)) hK hP hD hS 24 11 rfl rfl rfl (by decide) rfl (Nat.le_of_ble_eq_true rfl) (Nat.le_of_ble_eq_true rfl) dX2_takeOver_161 (fun H locs hP hD hS => ?_)
  refine lv_aload_n hx hb dX2_takeOver_164 rfl (lv_at hl 1 rfl) ?_
  refine va_get (D := D) (ci := 2) (v := .ref (q2 12)) (C := RX2) (T := TX2) (N := 15) hx hb hts hin2 hown hK hP 13 rfl rfl 11 (by decide) (hts (.fieldLink RX2 45 "ProofMarks$Sheet" "prints" "[I") (List.mem_of_getElem? (i := 16) rfl)) (fun _ h9 => h9) rfl dX2_takeOver_165 ?_
  refine lv_iconst (v := nI 0) hx hb dX2_takeOver_168 (by decide) ?_
  refine lv_aload_n hx hb dX2_takeOver_169 rfl (lv_at hl 0 rfl) ?_
  refine va_get (D := D) (ci := 2) (v := .ref (q 12)) (C := RX2) (T := TX2) (N := 15) hx hb hts hin2 hown hK hP 0 rfl rfl 11 (by decide) (hts (.fieldLink RX2 45 "ProofMarks$Sheet" "prints" "[I") (List.mem_of_getElem? (i := 16) rfl)) (fun _ h9 => h9) rfl dX2_takeOver_170 ?_
  refine lv_iconst (v := nI 0) hx hb dX2_takeOver_173 (by decide) ?_
  refine lv_aload_n hx hb dX2_takeOver_174 rfl (lv_at hl 0 rfl) ?_
  refine va_get (D := D) (ci := 2) (v := .ref (q 12)) (C := RX2) (T := TX2) (N := 15) hx hb hts hin2 hown hK hP 0 rfl rfl 11 (by decide) (hts (.fieldLink RX2 45 "ProofMarks$Sheet" "prints" "[I") (List.mem_of_getElem? (i := 16) rfl)) (fun _ h9 => h9) rfl dX2_takeOver_175 ?_
  refine va_alen (v := nI 4) hx hb hK hP 12 0 rfl rfl rfl dX2_takeOver_178 ?_
  refine kx_cpy (ws' := pm_sh y q (pm_vn (T 9)) (pm_vn (T 0)) (pm_vt (T 4)) (pm_vc (T 4)) (pm_vn (T 1)) (pm_vn (T 2)) (pm_vi (T 3)) (pm_vn (T 5)) (pm_vn (T 6)) (pm_vn (T 7)) (pm_vn (T 8)) (pm_vn (T 11)) (nI (S 10 0)) (nI (S 10 1)) (nI (S 10 2)) ++ pm_shS y q2 T) hx hb (by rw [hml]; exact hl.1.symm) hown (hts (.methodLink RX2 58 arraycopyName) (List.mem_of_getElem? (i := 2) rfl)) (hts (.native arraycopyName) (List.mem_of_getElem? (i := 3) rfl)) (hts (.static arraycopyName) (List.mem_of_getElem? (i := 4) rfl)) (hts (.initialized "java/lang/System") (List.mem_of_getElem? (i := 5) rfl)) hK hP hD hS 25 12 rfl rfl rfl (by decide) rfl (Nat.le_of_ble_eq_true rfl) (Nat.le_of_ble_eq_true rfl) dX2_takeOver_179 (fun H locs hP hD hS => ?_)
  refine lv_aload_n hx hb dX2_takeOver_182 rfl (lv_at hl 0 rfl) ?_
  refine lv_aload_n hx hb dX2_takeOver_183 rfl (lv_at hl 1 rfl) ?_
  refine va_get (D := D) (ci := 2) (v := .int (nI (T 10 0))) (C := RX2) (T := TX2) (N := 15) hx hb hts hin2 hown hK hP 13 rfl rfl 12 (by decide) (hts (.fieldLink RX2 48 "ProofMarks$Sheet" "rounds" "I") (List.mem_of_getElem? (i := 17) rfl)) (fun _ h9 => h9) rfl dX2_takeOver_184 ?_
  refine kx_put (D := D) (ci := 2) (v := .int (nI (T 10 0))) (ty := .int) (ws' := pm_sh y q (pm_vn (T 9)) (pm_vn (T 0)) (pm_vt (T 4)) (pm_vc (T 4)) (pm_vn (T 1)) (pm_vn (T 2)) (pm_vi (T 3)) (pm_vn (T 5)) (pm_vn (T 6)) (pm_vn (T 7)) (pm_vn (T 8)) (pm_vn (T 11)) (nI (T 10 0)) (nI (S 10 1)) (nI (S 10 2)) ++ pm_shS y q2 T) (C := RX2) (T := TX2) (N := 15) hx hb hts hin2 tyX2 tyX2_ok nmX2 hown hK hP hD hS 0 rfl rfl 12 (by decide) (hts (.fieldLink RX2 48 "ProofMarks$Sheet" "rounds" "I") (List.mem_of_getElem? (i := 17) rfl)) (fun _ h9 => h9) rfl (by decide +kernel) rfl rfl (Nat.le_of_ble_eq_true rfl) rfl dX2_takeOver_187 (fun H locs hP hD hS => ?_)
  refine lv_aload_n hx hb dX2_takeOver_190 rfl (lv_at hl 0 rfl) ?_
  refine lv_aload_n hx hb dX2_takeOver_191 rfl (lv_at hl 1 rfl) ?_
  refine va_get (D := D) (ci := 2) (v := .int (nI (T 10 1))) (C := RX2) (T := TX2) (N := 15) hx hb hts hin2 hown hK hP 13 rfl rfl 13 (by decide) (hts (.fieldLink RX2 52 "ProofMarks$Sheet" "paper" "I") (List.mem_of_getElem? (i := 18) rfl)) (fun _ h9 => h9) rfl dX2_takeOver_192 ?_
  refine kx_put (D := D) (ci := 2) (v := .int (nI (T 10 1))) (ty := .int) (ws' := pm_sh y q (pm_vn (T 9)) (pm_vn (T 0)) (pm_vt (T 4)) (pm_vc (T 4)) (pm_vn (T 1)) (pm_vn (T 2)) (pm_vi (T 3)) (pm_vn (T 5)) (pm_vn (T 6)) (pm_vn (T 7)) (pm_vn (T 8)) (pm_vn (T 11)) (nI (T 10 0)) (nI (T 10 1)) (nI (S 10 2)) ++ pm_shS y q2 T) (C := RX2) (T := TX2) (N := 15) hx hb hts hin2 tyX2 tyX2_ok nmX2 hown hK hP hD hS 0 rfl rfl 13 (by decide) (hts (.fieldLink RX2 52 "ProofMarks$Sheet" "paper" "I") (List.mem_of_getElem? (i := 18) rfl)) (fun _ h9 => h9) rfl (by decide +kernel) rfl rfl (Nat.le_of_ble_eq_true rfl) rfl dX2_takeOver_195 (fun H locs hP hD hS => ?_)
  refine lv_aload_n hx hb dX2_takeOver_198 rfl (lv_at hl 0 rfl) ?_
  refine lv_aload_n hx hb dX2_takeOver_199 rfl (lv_at hl 1 rfl) ?_
  refine va_get (D := D) (ci := 2) (v := .int (nI (T 10 2))) (C := RX2) (T := TX2) (N := 15) hx hb hts hin2 hown hK hP 13 rfl rfl 14 (by decide) (hts (.fieldLink RX2 55 "ProofMarks$Sheet" "paperTaken" "I") (List.mem_of_getElem? (i := 19) rfl)) (fun _ h9 => h9) rfl dX2_takeOver_200 ?_
  refine kx_put (D := D) (ci := 2) (v := .int (nI (T 10 2))) (ty := .int) (ws' := pm_sh y q (pm_vn (T 9)) (pm_vn (T 0)) (pm_vt (T 4)) (pm_vc (T 4)) (pm_vn (T 1)) (pm_vn (T 2)) (pm_vi (T 3)) (pm_vn (T 5)) (pm_vn (T 6)) (pm_vn (T 7)) (pm_vn (T 8)) (pm_vn (T 11)) (nI (T 10 0)) (nI (T 10 1)) (nI (T 10 2)) ++ pm_shS y q2 T) (C := RX2) (T := TX2) (N := 15) hx hb hts hin2 tyX2 tyX2_ok nmX2 hown hK hP hD hS 0 rfl rfl 14 (by decide) (hts (.fieldLink RX2 55 "ProofMarks$Sheet" "paperTaken" "I") (List.mem_of_getElem? (i := 19) rfl)) (fun _ h9 => h9) rfl (by decide +kernel) rfl rfl (Nat.le_of_ble_eq_true rfl) rfl dX2_takeOver_203 (fun H locs hP hD hS => ?_)
  exact W.vret hx hb hr (fun t ht _ => ⟨⟨(), rfl, trivial, (by show va_P D vwCl (pm_shS y q T ++ pm_shS y q2 T) t.heap; rw [ht]; exact hP)⟩, hS.F ht⟩) hS.2.2 dX2_takeOver_206

