/-! ===== what the class reads of the others' own fields ===== -/
def pm_nl : List (Nat × String × String × String) := [(83, "ProofMarks$History", "kept", "I"), (83, "ProofMarks$History", "kept", "I"), (79, "ProofMarks$Pad", "length", "I")]
def pm_NW (U : State) : Prop := ∀ q ∈ pm_nl, va_Nw (.fieldLinkNest "ProofMarks" q.1 q.2.1 q.2.2.1 q.2.2.2 "ProofMarks") U
theorem pm_NW.warm {s U : State} (hW : s.WarmedH U.vm) (h : pm_NW s) : pm_NW U := fun q hq => va_Nw.warmF hW (h q hq)
theorem pm_NW.same {s U : State} (e : s.vm = U.vm) (h : pm_NW s) : pm_NW U := fun q hq => va_Nw.same rfl e (h q hq)
theorem pm_NW.use {args : Array Value} {s : State} (h : pm_NW s) (k : Nat) {i : Nat} {b n d : String} (hk : pm_nl[k]? = some (i, b, n, d)) : (Cond.fieldLinkNest "ProofMarks" i b n d "ProofMarks").before args s = true := va_Nw.use rfl (h _ (List.mem_of_getElem? hk))
def pm_ron (D : va_G) (tys : List (ClassId × FieldType)) (av : List Value) (w : va_W) : Array Value → State → Prop := va_Pc av (fun U => (va_P D vwCl w U.heap ∧ va_K D vwCl tys U) ∧ pm_NW U)
def pm_wrn (D : va_G) (tys : List (ClassId × FieldType)) (av : List Value) (w : va_W) : Array Value → State → Prop := va_Pc av (fun U => (va_P D vwCl w U.heap ∧ va_K D vwCl tys U ∧ va_D (fun _ => True) w) ∧ pm_NW U)
def pm_cls (S : Nat → Nat → Nat) (ln kn : Nat) (x : Int32) : Int32 := if x = nI 15 then nI ln else if x = nI 16 then nI kn else pm_co S x

set_option maxHeartbeats 4000000 in
set_option maxRecDepth 100000 in
theorem k_X3_count (l : Launch) (D : va_G) (y : Nat → ClassId) (L : Nat → Nat → Nat) (S : Nat → Nat → Nat) (Bs : Nat → Nat → Nat → Nat) (pi : Nat → Nat) (kn : Nat) (Gs : Nat → Nat → Nat → Nat) (sv : Nat → Nat) (U : pm_PT) (Hs Sl : Nat → Nat → Nat → Nat) (xw : Int32) (hI : pm_Inv S) : Met l yX3_count wsX3_count ({ frames := 3, cells := 0, slots := 0, locals := 65 } : Room) (pm_ron D (pm_ty y) [.ref (L 0 0), .int xw] (pm_cl y L S Bs pi kn Gs sv U)) (vp_Si (fun r : Int32 => r = pm_cls S U.2.1 kn xw)) 0 0 (fun _ => False) := by
  refine Met.ofW (cc := cX3_count) (maxL := 2) (ret := (some .int)) (by decide) rfl ?_
  intro p e s m args below meth c s₁ B hml hpre
  obtain ⟨rfl, ⟨hP, hK⟩, hN⟩ := hpre
  have hx := B.exec
  have hb := B.bytes
  have hr := B.returns
  have hts := atoms_spec (ws := wsX3_count) B.pre
  have hown : s.vm.findClass RX3 = some m.cls := findClass_of_methodNamed B.named
  have hlocks := B.notSynchronized
  have hin3 : ∀ w ∈ u_ws RX3 TX3 5, w ∈ wsX3_count := fun w h => List.mem_cons_of_mem _ (List.mem_append_left _ (List.mem_append_left _ (List.mem_append_left _ (List.mem_append_right _ h))))
  have hin1 : ∀ w ∈ u_ws RX1 TX1 8, w ∈ wsX3_count := fun w h => List.mem_cons_of_mem _ (List.mem_append_left _ (List.mem_append_left _ (List.mem_append_right _ h)))
  have hin0 : ∀ w ∈ u_ws RX0 TX0 2, w ∈ wsX3_count := fun w h => List.mem_cons_of_mem _ (List.mem_append_left _ (List.mem_append_right _ h))
  have hin2 : ∀ w ∈ u_ws RX2 TX2 15, w ∈ wsX3_count := fun w h => List.mem_cons_of_mem _ (List.mem_append_right _ h)
  have hP : va_P D vwCl (pm_cl y L S Bs pi kn Gs sv U) s.heap := hP
  have hl := lv_entry ([.ref (L 0 0), .int xw]) (n := 2) (Nat.le_of_ble_eq_true rfl)
  rw [lg_entry_eq]
  generalize (lg_sl ([.ref (L 0 0), .int xw]) ++ List.replicate (2 - (lg_sl ([.ref (L 0 0), .int xw])).length) Slot.unset).toArray = ls at hl ⊢
  have hl : lv_has ls 2 [(0, .ref (L 0 0)), (1, .int xw)] := hl
  refine lv_iload_n hx hb dX3_count_0 rfl (lv_at hl 1 rfl) ?_
  refine lv_bipush (v := nI 15) hx hb dX3_count_1 (by decide) ?_
  refine lv_icmp_ne (tgt := 14) hx hb dX3_count_3 (by decide) (fun c1 => ?_) (fun c1 => ?_)
  · skip
    refine lv_iload_n hx hb dX3_count_14 rfl (lv_at hl 1 rfl) ?_
    refine lv_bipush (v := nI 16) hx hb dX3_count_15 (by decide) ?_
    refine lv_icmp_ne (tgt := 28) hx hb dX3_count_17 (by decide) (fun c2 => ?_) (fun c2 => ?_)
    · skip
      refine lv_aload_n hx hb dX3_count_28 rfl (lv_at hl 0 rfl) ?_
      refine va_get (D := D) (ci := 3) (v := .ref (L 2 0)) (C := RX3) (T := TX3) (N := 5) hx hb hts hin3 hown hK hP 0 rfl rfl 0 (by decide) (hts (.fieldLink RX3 10 "ProofMarks" "sheet" "LProofMarks$Sheet;") (List.mem_of_getElem? (i := 3) rfl)) (fun _ h9 => h9) rfl dX3_count_29 ?_
      refine lv_iload_n hx hb dX3_count_32 rfl (lv_at hl 1 rfl) ?_
      have hPc := pm_cutP (pm_eqP (pm_cl_s y L S Bs pi kn Gs sv U) hP)
      refine vp_callSi (W.runV (As := [.int xw]) (rest := []) ⟨hx, hb, hml, hown, hts⟩ (k_X2_numberOf l D y (L 2) S xw hI) (cwV 1 hts gX3_count_X2_numberOf rfl rfl rfl hd_X2_numberOf ⟨Nat.le_of_ble_eq_true rfl, Nat.le_of_ble_eq_true rfl⟩) ⟨pm_ro_blind, va_recv hK hPc (ci := 2) (q0 := 0) rfl rfl, pm_ro_pre hPc hK⟩ rfl rfl hl.1 rfl (lv_room (Nat.le_of_ble_eq_true rfl)) dX3_count_33 ⟨Nat.le_of_ble_eq_true rfl, Nat.le_of_ble_eq_true rfl⟩) (fun r9 h9 => ?_)
      exact W.iret hx hb hr (fun t ht _ => ⟨_, rfl, (by rw [pm_cls, if_neg (by assumption), if_neg (by assumption)]; exact h9), ht⟩) (fun _ h => absurd h List.not_mem_nil) dX3_count_36
    · skip
      refine lv_aload_n hx hb dX3_count_20 rfl (lv_at hl 0 rfl) ?_
      refine va_get (D := D) (ci := 3) (v := .ref (L 1 0)) (C := RX3) (T := TX3) (N := 5) hx hb hts hin3 hown hK hP 0 rfl rfl 1 (by decide) (hts (.fieldLink RX3 19 "ProofMarks" "history" "LProofMarks$History;") (List.mem_of_getElem? (i := 2) rfl)) (fun _ h9 => h9) rfl dX3_count_21 ?_
      have hPc := pm_cutP (pm_eqP (pm_cl_h y L S Bs pi kn Gs sv U) hP)
      refine va_getN (host := "ProofMarks") (D := D) (ci := 0) (v := .int (nI kn)) (C := RX0) (T := TX0) (N := 2) hx hb hts hin0 hown hK hPc 0 rfl rfl 1 (by decide) (hN.use 1 rfl) (fun _ h9 => h9) rfl dX3_count_24 ?_
      exact W.iret hx hb hr (fun t ht _ => ⟨_, rfl, (by rw [pm_cls, if_neg (by assumption), if_pos (by first | assumption | exact Decidable.not_not.mp (by assumption))]), ht⟩) (fun _ h => absurd h List.not_mem_nil) dX3_count_27
  · skip
    refine lv_aload_n hx hb dX3_count_6 rfl (lv_at hl 0 rfl) ?_
    refine va_get (D := D) (ci := 3) (v := .ref (L 3 0)) (C := RX3) (T := TX3) (N := 5) hx hb hts hin3 hown hK hP 0 rfl rfl 2 (by decide) (hts (.fieldLink RX3 26 "ProofMarks" "pad" "LProofMarks$Pad;") (List.mem_of_getElem? (i := 1) rfl)) (fun _ h9 => h9) rfl dX3_count_7 ?_
    have hPc := pm_cutP (pm_eqP (pm_cl_p y L S Bs pi kn Gs sv U) hP)
    refine va_getN (host := "ProofMarks") (D := D) (ci := 1) (v := .int (nI U.2.1)) (C := RX1) (T := TX1) (N := 8) hx hb hts hin1 hown hK hPc 0 rfl rfl 1 (by decide) (hN.use 2 rfl) (fun _ h9 => h9) rfl dX3_count_10 ?_
    exact W.iret hx hb hr (fun t ht _ => ⟨_, rfl, (if_pos (by first | assumption | exact Decidable.not_not.mp (by assumption))).symm, ht⟩) (fun _ h => absurd h List.not_mem_nil) dX3_count_13

