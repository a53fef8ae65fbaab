theorem pm_flt_ok {P : Nat → Nat} {ln n p : Nat} (h : pm_flt P ln (n + 1) p = none) : ∃ e, pm_oe P ln p = .inl e ∧ (e = ln ∨ (e < ln ∧ P e = 59 ∧ pm_flt P ln n (e + 1) = none)) := by
  cases hoe : pm_oe P ln p with
  | inr f =>
    rw [pm_flt_r hoe] at h
    cases h
  | inl e =>
    refine ⟨e, rfl, ?_⟩
    by_cases he : e = ln
    · exact Or.inl he
    · by_cases h2 : e < ln ∧ P e = 59
      · rw [pm_flt_s hoe he h2] at h
        exact Or.inr ⟨h2.1, h2.2, h⟩
      · rw [pm_flt_x hoe he h2] at h
        cases h
def pm_mor (y : Nat → ClassId) (q : Nat → Nat) (sr gp gs : Nat → Int32) (kn ln : Nat) (sv pd : Nat → Nat) : va_W :=
  [(q 0, .inr (4, [.ref (q 1), .ref (q 2), .int (nI kn), .ref (q 3), .ref (q 4), .ref (q 5), .int (nI ln)])), (q 1, .inl (y 0, 172, .inl sr)), (q 2, .inl (y 0, 1032, .inl gp)), (q 3, .inl (y 0, 344, .inl gs)), (q 4, .inl (y 2, 2, .inl (pm_vn sv))), (q 5, .inl (y 0, 80, .inl (pm_vn pd)))]
def pm_off (g : Nat → Int32) (n : Nat) : Nat → Int32 := fun j => g (n + j)
def pm_cp2 (a b : Nat → Int32) (n : Nat) : Nat → Int32 := fun j => if j < n then b j else a j
theorem pm_cp2_0 (a b : Nat → Int32) : pm_cp2 a b 0 = a := by
  funext j
  rw [pm_cp2, if_neg (by omega)]
theorem pm_cp2_s (a b : Nat → Int32) (k : Nat) : upd (pm_cp2 a b k) k (b k) = pm_cp2 a b (k + 1) := by
  funext j
  unfold upd pm_cp2
  by_cases h : j = k
  · rw [if_pos h, if_pos (by omega), h]
  · rw [if_neg h]
    by_cases h2 : j < k
    · rw [if_pos h2, if_pos (by omega)]
    · rw [if_neg h2, if_neg (by omega)]
theorem pm_mor_mo {D : va_G} {y : Nat → ClassId} {q : Nat → Nat} {a b gp gs : Nat → Int32} {kn ln : Nat} {sv pd : Nat → Nat} {T : Nat → Nat → Nat} {H : Heap} {A : Nat → Prop} (hP : va_P D vwCl (pm_mor y q (pm_cp2 a b 172) gp gs kn ln sv pd) H) (hD : va_D A (pm_mor y q (pm_cp2 a b 172) gp gs kn ln sv pd)) (h : ∀ j, j < 172 → b j = pm_ms T j) : va_P D vwCl (pm_mo y q T gp gs kn ln sv pd) H ∧ va_D A (pm_mo y q T gp gs kn ln sv pd) := by
  refine ⟨pm_P_arr (ws' := pm_mo y q T gp gs kn ln sv pd) 1 hP rfl (g := pm_ms T) (fun j hj => ?_) rfl, pm_D_same (w := pm_mor y q (pm_cp2 a b 172) gp gs kn ln sv pd) rfl hD⟩
  rw [pm_cp2, if_pos hj]
  exact h j hj
/-- what is saved -/
def pm_MS (gs : Nat → Int32) (sv : Nat → Nat) (Sl : Nat → Nat → Nat → Nat) : Prop := ∀ j, j < 2 → sv j = 1 → ∀ i, i < 172 → gs (172 * j + i) = pm_ms (Sl j) i
def pm_slp (Sl : Nat → Nat → Nat → Nat) (j : Nat) (S : Nat → Nat → Nat) : Nat → Nat → Nat → Nat := fun k => if k = j then S else Sl k
theorem pm_MS_save {gs : Nat → Int32} {sv : Nat → Nat} {Sl : Nat → Nat → Nat → Nat} {S : Nat → Nat → Nat} {j : Nat} (hj : j < 2) (h : pm_MS gs sv Sl) : pm_MS (pm_sh2 gs (172 * j) S 172) (updN sv j 1) (pm_slp Sl j S) := by
  intro k hk hs i hi
  unfold pm_slp
  by_cases e : k = j
  · subst e
    rw [if_pos rfl, pm_sh2, if_pos (by omega), show 172 * k + i - 172 * k = i by omega]
  · rw [if_neg e, pm_sh2, if_neg (by omega)]
    rw [updN_n _ _ e] at hs
    exact h k hk hs i hi
section PMZ
variable {p : Program} {l : Launch} {e : Env} {R : Room} {s : State} {m : MethodId} {args : Array Value} {below : List Frame} {meth : Method} {c : Code} {H : Heap} {locs : List Loc} {cells slots : Nat} {Q : State → Prop}
variable {cc : ByteArray} {pc : Nat} {ls : Array Slot} {rest : List Value} {D : va_G} {cl : List vw_C} {A : Nat → Prop} {a : Nat} {tys : List (ClassId × FieldType)} {ws ws' : va_W} {H0 : Heap}
theorem kx_zast1 (hx : p.tables.exec = Jvm.exec) (hb : c.code = cc) (hK : va_K D cl tys s) (hP : va_P D cl ws H) (hD : va_D A ws) (hS : va_S A H0 H locs) (q0 t0 : Nat) {cA : ClassId} {n : Nat} {f g : Nat → Int32} (ha : ws[q0]? = some (a, .inl (cA, n, .inl f))) (ht : tys[t0]? = some (cA, .boolean)) {i : Nat} (hi : i < n) (hn : n < 2 ^ 31) (hg : upd f i (nI 1) = g) (hw : ws.set q0 (a, .inl (cA, n, .inl g)) = ws') (hdg : decode cc pc = .ok (.bastore, 1))
    (kk : ∀ (H1 : Heap) (locs1 : List Loc), va_P D cl ws' H1 → va_D A ws' → va_S A H0 H1 locs1 → W p l e R s m args below meth c H1 locs1 cells slots Q (F0 m (pc + 1) ls rest)) : W p l e R s m args below meth c H locs cells slots Q (F0 m pc ls (.int (nI 1) :: .int (nI i) :: .ref a :: rest)) :=
  va_zast hx hb hK hP hD hS q0 t0 ha ht (vp_in_nI hi hn) hdg (by rw [nI_clamp (Nat.lt_trans hi hn), show vp_nar .boolean (nI 1) = nI 1 from rfl, hg, hw]; exact kk)
end PMZ
set_option maxHeartbeats 4000000 in
set_option maxRecDepth 100000 in
theorem k_X4_wipe (l : Launch) (D : va_G) (y : Nat → ClassId) (q : Nat → Nat) (S : Nat → Nat → Nat) (gp gs : Nat → Int32) (kn ln : Nat) (sv pd : Nat → Nat)  : Met l yX4_wipe wsX4_wipe ({ frames := 0, cells := 0, slots := 0, locals := 0 } : Room) (pm_wr D (pm_ty y) [.ref (q 0)] (pm_mo y q S gp gs kn ln sv pd)) (pm_Qi D (fun (r : Int32) (_ : Unit) => r = nI ln) (fun (_ : Unit) => pm_mo y q S gp gs kn 0 sv pd) (pm_mo y q S gp gs kn ln sv pd)) 0 0 (pm_ad (pm_mo y q S gp gs kn ln sv pd)) := by
  refine Met.ofW (cc := cX4_wipe) (maxL := 2) (ret := (some .int)) (by decide) rfl ?_
  intro p e s m args below meth c s₁ B hml hpre
  obtain ⟨rfl, hP, hK, hD0⟩ := hpre
  have hx := B.exec
  have hb := B.bytes
  have hr := B.returns
  have hts := atoms_spec (ws := wsX4_wipe) B.pre
  have hown : s.vm.findClass RX4 = some m.cls := findClass_of_methodNamed B.named
  have hlocks := B.notSynchronized
  have hin4 : ∀ w ∈ u_ws RX4 TX4 7, w ∈ wsX4_wipe := fun w h => List.mem_cons_of_mem _ (List.mem_append_right _ h)
  have hD := pm_ad_self hD0
  have hS : va_S (pm_ad (pm_mo y q S gp gs kn ln sv pd)) s.heap s.heap [] := va_S.rf
  have hP : va_P D vwCl (pm_mo y q S gp gs kn ln sv pd) s.heap := hP
  have hl := lv_entry ([.ref (q 0)]) (n := 2) (Nat.le_of_ble_eq_true rfl)
  rw [lg_entry_eq]
  generalize (lg_sl ([.ref (q 0)]) ++ List.replicate (2 - (lg_sl ([.ref (q 0)])).length) Slot.unset).toArray = ls at hl ⊢
  have hl : lv_has ls 2 [(0, .ref (q 0))] := hl
  refine lv_aload_n hx hb dX4_wipe_0 rfl (lv_at hl 0 rfl) ?_
  refine va_get (D := D) (ci := 4) (v := .int (nI ln)) (C := RX4) (T := TX4) (N := 7) hx hb hts hin4 hown hK hP 0 rfl rfl 6 (by decide) (hts (.fieldLink RX4 126 "ProofMarksModel" "length" "I") (List.mem_of_getElem? (i := 1) rfl)) (fun _ h9 => h9) rfl dX4_wipe_1 ?_
  refine lv_istore_n (lv' := [(1, .int (nI ln)), (0, .ref (q 0))]) hx hb dX4_wipe_4 rfl hl (by decide) rfl (fun ls hl => ?_)
  refine lv_aload_n hx hb dX4_wipe_5 rfl (lv_at hl 1 rfl) ?_
  refine lv_iconst (v := nI 0) hx hb dX4_wipe_6 (by decide) ?_
  refine kx_put (D := D) (ci := 4) (v := .int (nI 0)) (ty := .int) (ws' := pm_mo y q S gp gs kn 0 sv pd) (C := RX4) (T := TX4) (N := 7) hx hb hts hin4 tyX4 tyX4_ok nmX4 hown hK hP hD hS 0 rfl rfl 6 (by decide) (hts (.fieldLink RX4 126 "ProofMarksModel" "length" "I") (List.mem_of_getElem? (i := 1) rfl)) (fun _ h9 => h9) rfl (by decide +kernel) rfl rfl (Nat.le_of_ble_eq_true rfl) rfl dX4_wipe_7 (fun H locs hP hD hS => ?_)
  refine lv_iload_n hx hb dX4_wipe_10 rfl (lv_at hl 0 rfl) ?_
  exact W.iret hx hb hr (fun t ht _ => ⟨⟨_, (), rfl, rfl, (by show va_P D vwCl (pm_mo y q S gp gs kn 0 sv pd) t.heap; rw [ht]; exact hP)⟩, hS.F ht⟩) hS.2.2 dX4_wipe_11

set_option maxHeartbeats 4000000 in
set_option maxRecDepth 100000 in
theorem k_X4_carryOut_f (l : Launch) (D : va_G) (y : Nat → ClassId) (q : Nat → Nat) (S : Nat → Nat → Nat) (gp gs : Nat → Int32) (kn ln : Nat) (sv pd : Nat → Nat) (hPI : pm_PI pd ln) (hf : ¬ pm_fa pd ln = -6) : Met l yX4_carryOut wsX4_carryOut ({ frames := 5, cells := 0, slots := 0, locals := 108 } : Room) (pm_ro D (pm_ty y) [.ref (q 0)] (pm_mo y q S gp gs kn ln sv pd)) (vp_Si (fun r : Int32 => r = -3)) 0 0 (fun _ => False) := by
  refine Met.ofW (cc := cX4_carryOut) (maxL := 4) (ret := (some .int)) (by decide) rfl ?_
  intro p e s m args below meth c s₁ B hml hpre
  obtain ⟨rfl, hP, hK⟩ := hpre
  have hx := B.exec
  have hb := B.bytes
  have hr := B.returns
  have hts := atoms_spec (ws := wsX4_carryOut) B.pre
  have hown : s.vm.findClass RX4 = some m.cls := findClass_of_methodNamed B.named
  have hlocks := B.notSynchronized
  have hin4 : ∀ w ∈ u_ws RX4 TX4 7, w ∈ wsX4_carryOut := fun w h => List.mem_cons_of_mem _ (List.mem_append_right _ h)
  have hP : va_P D vwCl (pm_mo y q S gp gs kn ln sv pd) s.heap := hP
  have hl := lv_entry ([.ref (q 0)]) (n := 4) (Nat.le_of_ble_eq_true rfl)
  rw [lg_entry_eq]
  generalize (lg_sl ([.ref (q 0)]) ++ List.replicate (4 - (lg_sl ([.ref (q 0)])).length) Slot.unset).toArray = ls at hl ⊢
  have hl : lv_has ls 4 [(0, .ref (q 0))] := hl
  refine lv_aload_n hx hb dX4_carryOut_0 rfl (lv_at hl 0 rfl) ?_
  refine vp_callSi (W.runV (As := []) (rest := []) ⟨hx, hb, hml, hown, hts⟩ (k_X4_fault l D y q S gp gs kn ln sv pd hPI) (cwV 0 hts gX4_carryOut_X4_fault rfl rfl rfl hd_X4_fault ⟨Nat.le_of_ble_eq_true rfl, Nat.le_of_ble_eq_true rfl⟩) ⟨pm_ro_blind, va_recv hK hP (ci := 4) (q0 := 0) rfl rfl, pm_ro_pre hP hK⟩ rfl rfl hl.1 rfl (lv_room (Nat.le_of_ble_eq_true rfl)) dX4_carryOut_1 ⟨Nat.le_of_ble_eq_true rfl, Nat.le_of_ble_eq_true rfl⟩) (fun r1 h2 => ?_)
  obtain rfl : r1 = pm_fa pd ln := h2
  refine lv_bipush (v := (-6)) hx hb dX4_carryOut_4 (by decide) ?_
  refine lv_icmp_eq (tgt := 12) hx hb dX4_carryOut_6 (by decide) (fun c3 => by exfalso; exact absurd (by assumption) hf) (fun c3 => ?_)
  refine lv_bipush (v := (-3)) hx hb dX4_carryOut_9 (by decide) ?_
  exact W.iret hx hb hr (fun t ht _ => ⟨_, rfl, rfl, ht⟩) (fun _ h => absurd h List.not_mem_nil) dX4_carryOut_11

set_option maxHeartbeats 4000000 in
set_option maxRecDepth 100000 in
theorem k_X4_carryOut (l : Launch) (D : va_G) (y : Nat → ClassId) (q : Nat → Nat) (S : Nat → Nat → Nat) (gp gs : Nat → Int32) (kn ln : Nat) (sv pd : Nat → Nat) (Hs : Nat → Nat → Nat → Nat) (hI : pm_Inv S) (hPI : pm_PI pd ln) (hk : kn ≤ 6) (hM : pm_MH gp kn Hs) (hnf : pm_flt pd ln 80 0 = none) : Met l yX4_carryOut wsX4_carryOut ({ frames := 7, cells := 0, slots := 0, locals := 161 } : Room) (pm_wr D (pm_ty y) [.ref (q 0)] (pm_mo y q S gp gs kn ln sv pd)) (pm_Qi D (fun (r : Int32) (u : Nat × (Nat → Int32)) => r = nI u.1 ∧ (∀ k, k < u.1 → pm_go S pd ln k) ∧ (¬ pm_go S pd ln u.1) ∧ pm_MH u.2 (pm_kn kn) (pm_push Hs kn S)) (fun (u : Nat × (Nat → Int32)) => pm_mo y q (pm_rs S pd ln u.1) u.2 gs (pm_kn kn) 0 sv pd) (pm_mo y q S gp gs kn ln sv pd)) 0 0 (pm_ad (pm_mo y q S gp gs kn ln sv pd)) := by
  refine Met.ofW (cc := cX4_carryOut) (maxL := 4) (ret := (some .int)) (by decide) rfl ?_
  intro p e s m args below meth c s₁ B hml hpre
  obtain ⟨rfl, hP, hK, hD0⟩ := hpre
  have hx := B.exec
  have hb := B.bytes
  have hr := B.returns
  have hts := atoms_spec (ws := wsX4_carryOut) B.pre
  have hown : s.vm.findClass RX4 = some m.cls := findClass_of_methodNamed B.named
  have hlocks := B.notSynchronized
  have hin4 : ∀ w ∈ u_ws RX4 TX4 7, w ∈ wsX4_carryOut := fun w h => List.mem_cons_of_mem _ (List.mem_append_right _ h)
  have hD := pm_ad_self hD0
  have hS : va_S (pm_ad (pm_mo y q S gp gs kn ln sv pd)) s.heap s.heap [] := va_S.rf
  have hP : va_P D vwCl (pm_mo y q S gp gs kn ln sv pd) s.heap := hP
  have hl := lv_entry ([.ref (q 0)]) (n := 4) (Nat.le_of_ble_eq_true rfl)
  rw [lg_entry_eq]
  generalize (lg_sl ([.ref (q 0)]) ++ List.replicate (4 - (lg_sl ([.ref (q 0)])).length) Slot.unset).toArray = ls at hl ⊢
  have hl : lv_has ls 4 [(0, .ref (q 0))] := hl
  have hln := hPI.1
  refine lv_aload_n hx hb dX4_carryOut_0 rfl (lv_at hl 0 rfl) ?_
  refine vp_callSi (W.runV (As := []) (rest := []) ⟨hx, hb, hml, hown, hts⟩ (k_X4_fault l D y q S gp gs kn ln sv pd hPI) (cwV 0 hts gX4_carryOut_X4_fault rfl rfl rfl hd_X4_fault ⟨Nat.le_of_ble_eq_true rfl, Nat.le_of_ble_eq_true rfl⟩) ⟨pm_ro_blind, va_recv hK hP (ci := 4) (q0 := 0) rfl rfl, pm_ro_pre hP hK⟩ rfl rfl hl.1 rfl (lv_room (Nat.le_of_ble_eq_true rfl)) dX4_carryOut_1 ⟨Nat.le_of_ble_eq_true rfl, Nat.le_of_ble_eq_true rfl⟩) (fun r1 h2 => ?_)
  obtain rfl : r1 = pm_fa pd ln := h2
  refine lv_bipush (v := (-6)) hx hb dX4_carryOut_4 (by decide) ?_
  refine lv_icmp_eq (tgt := 12) hx hb dX4_carryOut_6 (by decide) (fun c3 => ?_) (fun c3 => by exfalso; exact absurd (pm_fa_none hnf) (by assumption))
  refine lv_aload_n hx hb dX4_carryOut_12 rfl (lv_at hl 0 rfl) ?_
  refine va_callv (va_runV (As := []) (rest := []) ⟨hx, hb, hml, hown, hts⟩ (k_X4_remembers l D y q S gp gs kn ln sv pd Hs hk hM) (cwV 0 hts gX4_carryOut_X4_remembers rfl rfl rfl hd_X4_remembers ⟨Nat.le_of_ble_eq_true rfl, Nat.le_of_ble_eq_true rfl⟩) ⟨pm_wr_blind, va_recv hK hP (ci := 4) (q0 := 0) rfl rfl, pm_wr_pre hP hK hD⟩ rfl rfl hl.1 rfl (lv_room (Nat.le_of_ble_eq_true rfl)) dX4_carryOut_13 ⟨Nat.le_of_ble_eq_true rfl, Nat.le_of_ble_eq_true rfl⟩) hS (fun q _ h9 => (pm_ad_all hD) q h9) (pm_ad_all hD) (fun u10 t6 H1 locs ht7 _ h5 hB8 _ hk9 hS => ?_)
  obtain ⟨hP, hD⟩ := pm_all (D := D) (cl := vwCl) (H1 := H1) hD (w' := pm_mo y q S u10 gs (pm_kn kn) ln sv pd) (by rw [← ht7]; exact hB8) (pm_mo_ad _ _ _ _ _ _ _ _ _ _ _ _ _ _ _ _)
  generalize H1 = H at hP hS ⊢
  have hM := h5
  refine lv_iconst (v := nI 0) hx hb dX4_carryOut_16 (by decide) ?_
  refine lv_istore_n (lv' := [(1, .int (nI 0)), (0, .ref (q 0))]) hx hb dX4_carryOut_17 rfl hl (by decide) rfl (fun ls hl => ?_)
  refine lv_iconst (v := nI 0) hx hb dX4_carryOut_18 (by decide) ?_
  refine lv_istore_n (lv' := [(2, .int (nI 0)), (1, .int (nI 0)), (0, .ref (q 0))]) hx hb dX4_carryOut_19 rfl hl (by decide) rfl (fun ls hl => ?_)
  have LOOP20 : ∀ (n k : Nat) (ls : Array Slot) (H : Heap) (locs : List Loc), va_P D vwCl (pm_mo y q (pm_rs S pd ln k) u10 gs (pm_kn kn) ln sv pd) H → va_D (pm_ad (pm_mo y q S gp gs kn ln sv pd)) (pm_mo y q (pm_rs S pd ln k) u10 gs (pm_kn kn) ln sv pd) → va_S (pm_ad (pm_mo y q S gp gs kn ln sv pd)) s.heap H locs → k ≤ 80 → 80 - k < n → lv_has ls 4 [(0, .ref (q 0)), (1, .int (nI k)), (2, .int (nI (pm_pos pd ln k)))] → (∀ j, j < k → pm_go S pd ln j) → (pm_pos pd ln k < ln → pm_flt pd ln (80 - k) (pm_pos pd ln k) = none) → (2 * k ≤ pm_pos pd ln k ∧ pm_pos pd ln k ≤ ln + 1) → W p l e (headSpec wsX4_carryOut ({ frames := 7, cells := 0, slots := 0, locals := 161 } : Room)).room s m ([.ref (q 0)] : List Value).toArray below meth c H locs 0 0 (MQ below (pm_Qi D (fun (r : Int32) (u : Nat × (Nat → Int32)) => r = nI u.1 ∧ (∀ k, k < u.1 → pm_go S pd ln k) ∧ (¬ pm_go S pd ln u.1) ∧ pm_MH u.2 (pm_kn kn) (pm_push Hs kn S)) (fun (u : Nat × (Nat → Int32)) => pm_mo y q (pm_rs S pd ln u.1) u.2 gs (pm_kn kn) 0 sv pd) (pm_mo y q S gp gs kn ln sv pd)) ([.ref (q 0)] : List Value).toArray s 0 0 (pm_ad (pm_mo y q S gp gs kn ln sv pd))) (F0 m 20 ls []) := by
    intro n
    induction n with
    | zero => intro k _ _ _ _ _ _ hi hn; omega
    | succ n ih11 =>
      intro k ls H locs  hP hD hS hi_k hn_k hl hh20_0 hh20_1 hh20_2
      refine lv_iload_n hx hb dX4_carryOut_20 rfl (lv_at hl 2 rfl) ?_
      refine lv_aload_n hx hb dX4_carryOut_21 rfl (lv_at hl 0 rfl) ?_
      refine va_get (D := D) (ci := 4) (v := .int (nI ln)) (C := RX4) (T := TX4) (N := 7) hx hb hts hin4 hown hK hP 0 rfl rfl 6 (by decide) (hts (.fieldLink RX4 126 "ProofMarksModel" "length" "I") (List.mem_of_getElem? (i := 1) rfl)) (fun _ h9 => h9) rfl dX4_carryOut_22 ?_
      refine kx_icmp_ge (tgt := 56) hx hb (by omega) (by omega) dX4_carryOut_25 (by decide) (fun c12 => ?_) (fun c12 => ?_)
      · skip
        refine lv_aload_n hx hb dX4_carryOut_56 rfl (lv_at hl 0 rfl) ?_
        refine lv_iconst (v := nI 0) hx hb dX4_carryOut_57 (by decide) ?_
        refine kx_put (D := D) (ci := 4) (v := .int (nI 0)) (ty := .int) (ws' := pm_mo y q (pm_rs S pd ln k) u10 gs (pm_kn kn) 0 sv pd) (C := RX4) (T := TX4) (N := 7) hx hb hts hin4 tyX4 tyX4_ok nmX4 hown hK hP hD hS 0 rfl rfl 6 (by decide) (hts (.fieldLink RX4 126 "ProofMarksModel" "length" "I") (List.mem_of_getElem? (i := 1) rfl)) (fun _ h9 => h9) rfl (by decide +kernel) rfl rfl (Nat.le_of_ble_eq_true rfl) rfl dX4_carryOut_58 (fun H locs hP hD hS => ?_)
        refine lv_iload_n hx hb dX4_carryOut_61 rfl (lv_at hl 1 rfl) ?_
        exact W.iret hx hb hr (fun t ht _ => ⟨⟨_, (k, u10), rfl, ⟨rfl, hh20_0, fun z : pm_go S pd ln k => absurd z.1 (by omega), hM⟩, (by show va_P D vwCl (pm_mo y q (pm_rs S pd ln k) u10 gs (pm_kn kn) 0 sv pd) t.heap; rw [ht]; exact hP)⟩, hS.F ht⟩) hS.2.2 dX4_carryOut_62
      · skip
        obtain ⟨e0, hoe, hnx⟩ := pm_flt_ok (n := 80 - (k + 1)) (by rw [show 80 - (k + 1) + 1 = 80 - k by omega]; exact hh20_1 (by omega))
        refine lv_aload_n hx hb dX4_carryOut_28 rfl (lv_at hl 0 rfl) ?_
        refine lv_iload_n hx hb dX4_carryOut_29 rfl (lv_at hl 2 rfl) ?_
        refine vp_callSi (W.runV (As := [.int (nI (pm_pos pd ln k))]) (rest := []) ⟨hx, hb, hml, hown, hts⟩ (k_X4_whyNot l D y q (pm_rs S pd ln k) u10 gs (pm_kn kn) ln sv pd (pm_pos pd ln k) e0 (pm_rs_inv hI pd ln k) hPI (by omega) hoe) (cwV 1 hts gX4_carryOut_X4_whyNot rfl rfl rfl hd_X4_whyNot ⟨Nat.le_of_ble_eq_true rfl, Nat.le_of_ble_eq_true rfl⟩) ⟨pm_ro_blind, va_recv hK hP (ci := 4) (q0 := 0) rfl rfl, pm_ro_pre hP hK⟩ rfl rfl hl.1 rfl (lv_room (Nat.le_of_ble_eq_true rfl)) dX4_carryOut_30 ⟨Nat.le_of_ble_eq_true rfl, Nat.le_of_ble_eq_true rfl⟩) (fun r13 h14 => ?_)
        rcases h14 with ⟨ho15, rfl⟩ | ⟨ho15, qho15⟩
        · skip
          refine lv_if_ne (tgt := 56) hx hb dX4_carryOut_33 (by decide) (fun c16 => (c16 (by decide)).elim) (fun _ => ?_)
          refine lv_aload_n hx hb dX4_carryOut_36 rfl (lv_at hl 0 rfl) ?_
          refine lv_iload_n hx hb dX4_carryOut_37 rfl (lv_at hl 2 rfl) ?_
          refine va_calli (va_runV (As := [.int (nI (pm_pos pd ln k))]) (rest := []) ⟨hx, hb, hml, hown, hts⟩ (k_X4_does l D y q (pm_rs S pd ln k) u10 gs (pm_kn kn) ln sv pd (pm_pos pd ln k) e0 (pm_rs_inv hI pd ln k) hPI (by omega) hoe ho15) (cwV 1 hts gX4_carryOut_X4_does rfl rfl rfl hd_X4_does ⟨Nat.le_of_ble_eq_true rfl, Nat.le_of_ble_eq_true rfl⟩) ⟨pm_wr_blind, va_recv hK hP (ci := 4) (q0 := 0) rfl rfl, pm_wr_pre hP hK hD⟩ rfl rfl hl.1 rfl (lv_room (Nat.le_of_ble_eq_true rfl)) dX4_carryOut_38 ⟨Nat.le_of_ble_eq_true rfl, Nat.le_of_ble_eq_true rfl⟩) hS (fun q _ h9 => (pm_ad_all hD) q h9) (pm_ad_all hD) (fun r17 u23 t19 H1 locs ht20 _ h18 hB21 _ hk22 hS => ?_)
          obtain ⟨hP, hD⟩ := pm_all (D := D) (cl := vwCl) (H1 := H1) hD (w' := pm_mo y q ((pm_ord (pm_rs S pd ln k) pd ln (pm_pos pd ln k)).2) u10 gs (pm_kn kn) ln sv pd) (by rw [← ht20]; exact hB21) (pm_mo_ad _ _ _ _ _ _ _ _ _ _ _ _ _ _ _ _)
          generalize H1 = H at hP hS ⊢
          refine lv_istore_n (lv' := [(3, .int r17), (0, .ref (q 0)), (1, .int (nI k)), (2, .int (nI (pm_pos pd ln k)))]) hx hb dX4_carryOut_41 rfl hl (by decide) rfl (fun ls hl => ?_)
          refine kx_iinc (a := k) (lv' := [(1, .int (nI (k + 1))), (3, .int r17), (0, .ref (q 0)), (2, .int (nI (pm_pos pd ln k)))]) hx hb dX4_carryOut_42 hl (k := 2) rfl (by decide) rfl (fun ls hl => ?_)
          refine lv_aload_n hx hb dX4_carryOut_45 rfl (lv_at hl 2 rfl) ?_
          refine lv_iload_n hx hb dX4_carryOut_46 rfl (lv_at hl 3 rfl) ?_
          refine vp_callSi (W.runV (As := [.int (nI (pm_pos pd ln k))]) (rest := []) ⟨hx, hb, hml, hown, hts⟩ (k_X4_orderEnd l D y q ((pm_ord (pm_rs S pd ln k) pd ln (pm_pos pd ln k)).2) u10 gs (pm_kn kn) ln sv pd (pm_pos pd ln k) hPI (by omega)) (cwV 1 hts gX4_carryOut_X4_orderEnd rfl rfl rfl hd_X4_orderEnd ⟨Nat.le_of_ble_eq_true rfl, Nat.le_of_ble_eq_true rfl⟩) ⟨pm_ro_blind, va_recv hK hP (ci := 4) (q0 := 0) rfl rfl, pm_ro_pre hP hK⟩ rfl rfl hl.1 rfl (lv_room (Nat.le_of_ble_eq_true rfl)) dX4_carryOut_47 ⟨Nat.le_of_ble_eq_true rfl, Nat.le_of_ble_eq_true rfl⟩) (fun r24 h25 => ?_)
          obtain rfl : r24 = nI e0 := h25.trans (by rw [hoe]; rfl)
          refine lv_iconst (v := nI 1) hx hb dX4_carryOut_50 (by decide) ?_
          refine kx_iadd hx hb dX4_carryOut_51 ?_
          refine lv_istore_n (lv' := [(2, .int (nI (e0 + 1))), (1, .int (nI (k + 1))), (3, .int r17), (0, .ref (q 0))]) hx hb dX4_carryOut_52 rfl hl (by decide) rfl (fun ls hl => ?_)
          refine lv_goto (tgt := 20) hx hb dX4_carryOut_53 (by decide) ?_
          have q26 : (nI (pm_pos pd ln (k + 1)) : Int32) = nI (e0 + 1) := (congrArg nI (pm_pos_s hoe))
          exact ih11 (k + 1) ls H locs hP hD hS (by omega) (by omega) (by rw [q26]; exact lv_sub hl [3, 1, 0] rfl) (fun j hj => by
                  rcases (show j < k ∨ j = k by omega) with z | z
                  · exact hh20_0 j z
                  · rw [z]; exact ⟨by omega, ho15⟩) (fun z => by
                  rw [pm_pos_s hoe] at z ⊢
                  rcases hnx with w | w
                  · omega
                  · exact w.2.2) (by rw [pm_pos_s hoe]; have := pm_oe_l hoe; omega)
        · rw [← qho15] at ho15
          refine lv_if_ne (tgt := 56) hx hb dX4_carryOut_33 (by decide) (fun c27 => ?_) (fun c27 => by exfalso; exact absurd (by assumption) (fun z : _ = (0 : Int32) => by have z9 := ho15; rw [z] at z9; exact absurd z9 (by decide)))
          refine lv_aload_n hx hb dX4_carryOut_56 rfl (lv_at hl 0 rfl) ?_
          refine lv_iconst (v := nI 0) hx hb dX4_carryOut_57 (by decide) ?_
          refine kx_put (D := D) (ci := 4) (v := .int (nI 0)) (ty := .int) (ws' := pm_mo y q (pm_rs S pd ln k) u10 gs (pm_kn kn) 0 sv pd) (C := RX4) (T := TX4) (N := 7) hx hb hts hin4 tyX4 tyX4_ok nmX4 hown hK hP hD hS 0 rfl rfl 6 (by decide) (hts (.fieldLink RX4 126 "ProofMarksModel" "length" "I") (List.mem_of_getElem? (i := 1) rfl)) (fun _ h9 => h9) rfl (by decide +kernel) rfl rfl (Nat.le_of_ble_eq_true rfl) rfl dX4_carryOut_58 (fun H locs hP hD hS => ?_)
          refine lv_iload_n hx hb dX4_carryOut_61 rfl (lv_at hl 1 rfl) ?_
          exact W.iret hx hb hr (fun t ht _ => ⟨⟨_, (k, u10), rfl, ⟨rfl, hh20_0, fun z : pm_go S pd ln k => absurd z.2 (Int32.not_le.mpr (by rw [← qho15]; exact ho15)), hM⟩, (by show va_P D vwCl (pm_mo y q (pm_rs S pd ln k) u10 gs (pm_kn kn) 0 sv pd) t.heap; rw [ht]; exact hP)⟩, hS.F ht⟩) hS.2.2 dX4_carryOut_62
  exact LOOP20 (80 + 1) 0 ls H locs hP hD hS (by omega) (by omega) (lv_sub hl [2, 1, 0] rfl) (fun j hj => absurd hj (Nat.not_lt_zero j)) (fun _ => hnf) ⟨Nat.le_refl 0, Nat.zero_le _⟩

set_option maxHeartbeats 4000000 in
set_option maxRecDepth 100000 in
theorem k_X4_undo_0 (l : Launch) (D : va_G) (y : Nat → ClassId) (q : Nat → Nat) (S : Nat → Nat → Nat) (gp gs : Nat → Int32) (kn ln : Nat) (sv pd : Nat → Nat) (h0 : kn = 0) : Met l yX4_undo wsX4_undo ({ frames := 0, cells := 0, slots := 0, locals := 0 } : Room) (pm_ro D (pm_ty y) [.ref (q 0)] (pm_mo y q S gp gs kn ln sv pd)) (vp_Si (fun r : Int32 => r = -5)) 0 0 (fun _ => False) := by
  refine Met.ofW (cc := cX4_undo) (maxL := 2) (ret := (some .int)) (by decide) rfl ?_
  intro p e s m args below meth c s₁ B hml hpre
  obtain ⟨rfl, hP, hK⟩ := hpre
  have hx := B.exec
  have hb := B.bytes
  have hr := B.returns
  have hts := atoms_spec (ws := wsX4_undo) B.pre
  have hown : s.vm.findClass RX4 = some m.cls := findClass_of_methodNamed B.named
  have hlocks := B.notSynchronized
  have hin4 : ∀ w ∈ u_ws RX4 TX4 7, w ∈ wsX4_undo := fun w h => List.mem_cons_of_mem _ (List.mem_append_right _ h)
  have hP : va_P D vwCl (pm_mo y q S gp gs kn ln sv pd) s.heap := hP
  have hl := lv_entry ([.ref (q 0)]) (n := 2) (Nat.le_of_ble_eq_true rfl)
  rw [lg_entry_eq]
  generalize (lg_sl ([.ref (q 0)]) ++ List.replicate (2 - (lg_sl ([.ref (q 0)])).length) Slot.unset).toArray = ls at hl ⊢
  have hl : lv_has ls 2 [(0, .ref (q 0))] := hl
  have hk : kn ≤ 6 := by omega
  refine lv_aload_n hx hb dX4_undo_0 rfl (lv_at hl 0 rfl) ?_
  refine va_get (D := D) (ci := 4) (v := .int (nI kn)) (C := RX4) (T := TX4) (N := 7) hx hb hts hin4 hown hK hP 0 rfl rfl 2 (by decide) (hts (.fieldLink RX4 37 "ProofMarksModel" "known" "I") (List.mem_of_getElem? (i := 1) rfl)) (fun _ h9 => h9) rfl dX4_undo_1 ?_
  refine kx_if_ne (tgt := 10) hx hb (by omega) dX4_undo_4 (by decide) (fun c1 => by exfalso; omega) (fun c1 => ?_)
  refine lv_bipush (v := (-5)) hx hb dX4_undo_7 (by decide) ?_
  exact W.iret hx hb hr (fun t ht _ => ⟨_, rfl, rfl, ht⟩) (fun _ h => absurd h List.not_mem_nil) dX4_undo_9

set_option maxHeartbeats 4000000 in
set_option maxRecDepth 100000 in
theorem k_X4_undo (l : Launch) (D : va_G) (y : Nat → ClassId) (q : Nat → Nat) (S : Nat → Nat → Nat) (gp gs : Nat → Int32) (kn ln : Nat) (sv pd : Nat → Nat) (Hs : Nat → Nat → Nat → Nat) (hk : kn ≤ 6) (h0 : 0 < kn) (hM : pm_MH gp kn Hs) : Met l yX4_undo wsX4_undo ({ frames := 0, cells := 0, slots := 0, locals := 0 } : Room) (pm_wr D (pm_ty y) [.ref (q 0)] (pm_mo y q S gp gs kn ln sv pd)) (pm_Qi D (fun (r : Int32) (_ : Unit) => r = nI (kn - 1)) (fun (_ : Unit) => pm_mo y q (Hs (kn - 1)) gp gs (kn - 1) ln sv pd) (pm_mo y q S gp gs kn ln sv pd)) 0 0 (pm_ad (pm_mo y q S gp gs kn ln sv pd)) := by
  refine Met.ofW (cc := cX4_undo) (maxL := 2) (ret := (some .int)) (by decide) rfl ?_
  intro p e s m args below meth c s₁ B hml hpre
  obtain ⟨rfl, hP, hK, hD0⟩ := hpre
  have hx := B.exec
  have hb := B.bytes
  have hr := B.returns
  have hts := atoms_spec (ws := wsX4_undo) B.pre
  have hown : s.vm.findClass RX4 = some m.cls := findClass_of_methodNamed B.named
  have hlocks := B.notSynchronized
  have hin4 : ∀ w ∈ u_ws RX4 TX4 7, w ∈ wsX4_undo := fun w h => List.mem_cons_of_mem _ (List.mem_append_right _ h)
  have hD := pm_ad_self hD0
  have hS : va_S (pm_ad (pm_mo y q S gp gs kn ln sv pd)) s.heap s.heap [] := va_S.rf
  have hP : va_P D vwCl (pm_mo y q S gp gs kn ln sv pd) s.heap := hP
  have hl := lv_entry ([.ref (q 0)]) (n := 2) (Nat.le_of_ble_eq_true rfl)
  rw [lg_entry_eq]
  generalize (lg_sl ([.ref (q 0)]) ++ List.replicate (2 - (lg_sl ([.ref (q 0)])).length) Slot.unset).toArray = ls at hl ⊢
  have hl : lv_has ls 2 [(0, .ref (q 0))] := hl
  refine lv_aload_n hx hb dX4_undo_0 rfl (lv_at hl 0 rfl) ?_
  refine va_get (D := D) (ci := 4) (v := .int (nI kn)) (C := RX4) (T := TX4) (N := 7) hx hb hts hin4 hown hK hP 0 rfl rfl 2 (by decide) (hts (.fieldLink RX4 37 "ProofMarksModel" "known" "I") (List.mem_of_getElem? (i := 1) rfl)) (fun _ h9 => h9) rfl dX4_undo_1 ?_
  refine kx_if_ne (tgt := 10) hx hb (by omega) dX4_undo_4 (by decide) (fun c1 => ?_) (fun c1 => by exfalso; omega)
  refine lv_aload_n hx hb dX4_undo_10 rfl (lv_at hl 0 rfl) ?_
  refine lv_dup hx hb dX4_undo_11 rfl ?_
  refine va_get (D := D) (ci := 4) (v := .int (nI kn)) (C := RX4) (T := TX4) (N := 7) hx hb hts hin4 hown hK hP 0 rfl rfl 2 (by decide) (hts (.fieldLink RX4 37 "ProofMarksModel" "known" "I") (List.mem_of_getElem? (i := 1) rfl)) (fun _ h9 => h9) rfl dX4_undo_12 ?_
  refine lv_iconst (v := nI 1) hx hb dX4_undo_15 (by decide) ?_
  refine kx_isub hx hb (by omega) dX4_undo_16 ?_
  refine kx_put (D := D) (ci := 4) (v := .int (nI (kn - 1))) (ty := .int) (ws' := pm_mo y q S gp gs (kn - 1) ln sv pd) (C := RX4) (T := TX4) (N := 7) hx hb hts hin4 tyX4 tyX4_ok nmX4 hown hK hP hD hS 0 rfl rfl 2 (by decide) (hts (.fieldLink RX4 37 "ProofMarksModel" "known" "I") (List.mem_of_getElem? (i := 1) rfl)) (fun _ h9 => h9) rfl (by decide +kernel) rfl rfl (Nat.le_of_ble_eq_true rfl) rfl dX4_undo_17 (fun H locs hP hD hS => ?_)
  refine lv_iconst (v := nI 0) hx hb dX4_undo_20 (by decide) ?_
  refine lv_istore_n (lv' := [(1, .int (nI 0)), (0, .ref (q 0))]) hx hb dX4_undo_21 rfl hl (by decide) rfl (fun ls hl => ?_)
  have LOOP22 : ∀ (n k : Nat) (ls : Array Slot) (H : Heap) (locs : List Loc), va_P D vwCl (pm_mor y q (pm_cp2 (pm_ms S) (pm_off gp (172 * (kn - 1))) k) gp gs (kn - 1) ln sv pd) H → va_D (pm_ad (pm_mo y q S gp gs kn ln sv pd)) (pm_mor y q (pm_cp2 (pm_ms S) (pm_off gp (172 * (kn - 1))) k) gp gs (kn - 1) ln sv pd) → va_S (pm_ad (pm_mo y q S gp gs kn ln sv pd)) s.heap H locs → k ≤ 172 → 172 - k < n → lv_has ls 2 [(0, .ref (q 0)), (1, .int (nI k))] → W p l e (headSpec wsX4_undo ({ frames := 0, cells := 0, slots := 0, locals := 0 } : Room)).room s m ([.ref (q 0)] : List Value).toArray below meth c H locs 0 0 (MQ below (pm_Qi D (fun (r : Int32) (_ : Unit) => r = nI (kn - 1)) (fun (_ : Unit) => pm_mo y q (Hs (kn - 1)) gp gs (kn - 1) ln sv pd) (pm_mo y q S gp gs kn ln sv pd)) ([.ref (q 0)] : List Value).toArray s 0 0 (pm_ad (pm_mo y q S gp gs kn ln sv pd))) (F0 m 22 ls []) := by
    intro n
    induction n with
    | zero => intro k _ _ _ _ _ _ hi hn; omega
    | succ n ih2 =>
      intro k ls H locs  hP hD hS hi_k hn_k hl 
      refine lv_iload_n hx hb dX4_undo_22 rfl (lv_at hl 1 rfl) ?_
      refine lv_sipush (v := nI 172) hx hb dX4_undo_23 (by decide) ?_
      refine kx_icmp_ge (tgt := 56) hx hb (by omega) (by decide) dX4_undo_26 (by decide) (fun c3 => ?_) (fun c3 => ?_)
      · skip
        obtain rfl : k = 172 := by omega
        obtain ⟨hP, hD⟩ := pm_mor_mo (T := Hs (kn - 1)) hP hD (fun j hj => hM (kn - 1) (by omega) j hj)
        refine lv_aload_n hx hb dX4_undo_56 rfl (lv_at hl 0 rfl) ?_
        refine va_get (D := D) (ci := 4) (v := .int (nI (kn - 1))) (C := RX4) (T := TX4) (N := 7) hx hb hts hin4 hown hK hP 0 rfl rfl 2 (by decide) (hts (.fieldLink RX4 37 "ProofMarksModel" "known" "I") (List.mem_of_getElem? (i := 1) rfl)) (fun _ h9 => h9) rfl dX4_undo_57 ?_
        exact W.iret hx hb hr (fun t ht _ => ⟨⟨_, (), rfl, rfl, (by show va_P D vwCl (pm_mo y q (Hs (kn - 1)) gp gs (kn - 1) ln sv pd) t.heap; rw [ht]; exact hP)⟩, hS.F ht⟩) hS.2.2 dX4_undo_60
      · skip
        refine lv_aload_n hx hb dX4_undo_29 rfl (lv_at hl 0 rfl) ?_
        refine va_get (D := D) (ci := 4) (v := .ref (q 1)) (C := RX4) (T := TX4) (N := 7) hx hb hts hin4 hown hK hP 0 rfl rfl 0 (by decide) (hts (.fieldLink RX4 7 "ProofMarksModel" "s" "[I") (List.mem_of_getElem? (i := 2) rfl)) (fun _ h9 => h9) rfl dX4_undo_30 ?_
        refine lv_iload_n hx hb dX4_undo_33 rfl (lv_at hl 1 rfl) ?_
        refine lv_aload_n hx hb dX4_undo_34 rfl (lv_at hl 0 rfl) ?_
        refine va_get (D := D) (ci := 4) (v := .ref (q 2)) (C := RX4) (T := TX4) (N := 7) hx hb hts hin4 hown hK hP 0 rfl rfl 1 (by decide) (hts (.fieldLink RX4 13 "ProofMarksModel" "past" "[I") (List.mem_of_getElem? (i := 3) rfl)) (fun _ h9 => h9) rfl dX4_undo_35 ?_
        refine lv_sipush (v := nI 172) hx hb dX4_undo_38 (by decide) ?_
        refine lv_aload_n hx hb dX4_undo_41 rfl (lv_at hl 0 rfl) ?_
        refine va_get (D := D) (ci := 4) (v := .int (nI (kn - 1))) (C := RX4) (T := TX4) (N := 7) hx hb hts hin4 hown hK hP 0 rfl rfl 2 (by decide) (hts (.fieldLink RX4 37 "ProofMarksModel" "known" "I") (List.mem_of_getElem? (i := 1) rfl)) (fun _ h9 => h9) rfl dX4_undo_42 ?_
        refine kx_imul hx hb dX4_undo_45 ?_
        refine lv_iload_n hx hb dX4_undo_46 rfl (lv_at hl 1 rfl) ?_
        refine kx_iadd hx hb dX4_undo_47 ?_
        refine kx_iald (v := gp ((172 * (kn - 1)) + k)) hx hb hK hP 2 0 rfl rfl (by omega) (by decide) rfl dX4_undo_48 ?_
        refine kx_iast (ws' := pm_mor y q (pm_cp2 (pm_ms S) (pm_off gp (172 * (kn - 1))) (k + 1)) gp gs (kn - 1) ln sv pd) hx hb hK hP hD hS 1 0 rfl rfl (by omega) (by decide) (pm_cp2_s (pm_ms S) (pm_off gp (172 * (kn - 1))) k) rfl dX4_undo_49 (fun H locs hP hD hS => ?_)
        refine kx_iinc (a := k) (lv' := [(1, .int (nI (k + 1))), (0, .ref (q 0))]) hx hb dX4_undo_50 hl (k := 1) rfl (by decide) rfl (fun ls hl => ?_)
        refine lv_goto (tgt := 22) hx hb dX4_undo_53 (by decide) ?_
        exact ih2 (k + 1) ls H locs hP hD hS (by omega) (by omega) (by exact lv_sub hl [1, 0] rfl) 
  exact LOOP22 (172 + 1) 0 ls H locs (by rw [pm_cp2_0]; exact hP) (by rw [pm_cp2_0]; exact hD) hS (by omega) (by omega) (lv_sub hl [1, 0] rfl) 

set_option maxHeartbeats 4000000 in
set_option maxRecDepth 100000 in
theorem k_X4_save_o (l : Launch) (D : va_G) (y : Nat → ClassId) (q : Nat → Nat) (S : Nat → Nat → Nat) (gp gs : Nat → Int32) (kn ln : Nat) (sv pd : Nat → Nat) (xs : Int32) (ho : xs < 0 ∨ nI 2 ≤ xs) : Met l yX4_save wsX4_save ({ frames := 1, cells := 0, slots := 0, locals := 22 } : Room) (pm_ro D (pm_ty y) [.ref (q 0), .int xs] (pm_mo y q S gp gs kn ln sv pd)) (vp_Si (fun r : Int32 => r = -2)) 0 0 (fun _ => False) := by
  refine Met.ofW (cc := cX4_save) (maxL := 3) (ret := (some .int)) (by decide) rfl ?_
  intro p e s m args below meth c s₁ B hml hpre
  obtain ⟨rfl, hP, hK⟩ := hpre
  have hx := B.exec
  have hb := B.bytes
  have hr := B.returns
  have hts := atoms_spec (ws := wsX4_save) B.pre
  have hown : s.vm.findClass RX4 = some m.cls := findClass_of_methodNamed B.named
  have hlocks := B.notSynchronized
  have hin4 : ∀ w ∈ u_ws RX4 TX4 7, w ∈ wsX4_save := fun w h => List.mem_cons_of_mem _ (List.mem_append_right _ h)
  have hP : va_P D vwCl (pm_mo y q S gp gs kn ln sv pd) s.heap := hP
  have hl := lv_entry ([.ref (q 0), .int xs]) (n := 3) (Nat.le_of_ble_eq_true rfl)
  rw [lg_entry_eq]
  generalize (lg_sl ([.ref (q 0), .int xs]) ++ List.replicate (3 - (lg_sl ([.ref (q 0), .int xs])).length) Slot.unset).toArray = ls at hl ⊢
  have hl : lv_has ls 3 [(0, .ref (q 0)), (1, .int xs)] := hl
  refine lv_iload_n hx hb dX4_save_0 rfl (lv_at hl 1 rfl) ?_
  refine lv_iconst (v := nI 0) hx hb dX4_save_1 (by decide) ?_
  refine lv_iconst (v := nI 1) hx hb dX4_save_2 (by decide) ?_
  refine vp_callSi (W.runS (As := [.int xs, .int (nI 0), .int (nI 1)]) (rest := []) ⟨hx, hb, hml, hown, hts⟩ (k_X4_in l xs (nI 0) (nI 1)) (va_cwS 3 hts gX4_save_X4_in rfl rfl rfl hd_X4_in ⟨Nat.le_of_ble_eq_true rfl, Nat.le_of_ble_eq_true rfl⟩) ⟨pm_no_blind, pm_no_pre⟩ rfl rfl hl.1 rfl (lv_room (Nat.le_of_ble_eq_true rfl)) dX4_save_3 ⟨Nat.le_of_ble_eq_true rfl, Nat.le_of_ble_eq_true rfl⟩) (fun r1 h2 => ?_)
  rcases (show ((nI 0 ≤ xs ∧ xs ≤ nI 1) ∧ r1 = nI 1) ∨ (¬ (nI 0 ≤ xs ∧ xs ≤ nI 1) ∧ r1 = nI 0) from h2) with ⟨hp3, rfl⟩ | ⟨hp3, rfl⟩
  · exact (pm_no2 (n := 1) (a := 0) ho (by decide) (by decide) hp3).elim
  · skip
    refine lv_if_ne (tgt := 12) hx hb dX4_save_6 (by decide) (fun c4 => (c4 (by decide)).elim) (fun _ => ?_)
    refine lv_bipush (v := (-2)) hx hb dX4_save_9 (by decide) ?_
    exact W.iret hx hb hr (fun t ht _ => ⟨_, rfl, rfl, ht⟩) (fun _ h => absurd h List.not_mem_nil) dX4_save_11

set_option maxHeartbeats 4000000 in
set_option maxRecDepth 100000 in
theorem k_X4_save (l : Launch) (D : va_G) (y : Nat → ClassId) (q : Nat → Nat) (S : Nat → Nat → Nat) (gp gs : Nat → Int32) (kn ln : Nat) (sv pd : Nat → Nat) (Sl : Nat → Nat → Nat → Nat) (j : Nat) (hj : j < 2) (hMS : pm_MS gs sv Sl) : Met l yX4_save wsX4_save ({ frames := 1, cells := 0, slots := 0, locals := 22 } : Room) (pm_wr D (pm_ty y) [.ref (q 0), .int (nI j)] (pm_mo y q S gp gs kn ln sv pd)) (pm_Qi D (fun (r : Int32) (u : Nat → Int32) => r = nI (S 10 0) ∧ pm_MS u (updN sv j 1) (pm_slp Sl j S)) (fun (u : Nat → Int32) => pm_mo y q S gp u kn ln (updN sv j 1) pd) (pm_mo y q S gp gs kn ln sv pd)) 0 0 (pm_ad (pm_mo y q S gp gs kn ln sv pd)) := by
  refine Met.ofW (cc := cX4_save) (maxL := 3) (ret := (some .int)) (by decide) rfl ?_
  intro p e s m args below meth c s₁ B hml hpre
  obtain ⟨rfl, hP, hK, hD0⟩ := hpre
  have hx := B.exec
  have hb := B.bytes
  have hr := B.returns
  have hts := atoms_spec (ws := wsX4_save) B.pre
  have hown : s.vm.findClass RX4 = some m.cls := findClass_of_methodNamed B.named
  have hlocks := B.notSynchronized
  have hin4 : ∀ w ∈ u_ws RX4 TX4 7, w ∈ wsX4_save := fun w h => List.mem_cons_of_mem _ (List.mem_append_right _ h)
  have hD := pm_ad_self hD0
  have hS : va_S (pm_ad (pm_mo y q S gp gs kn ln sv pd)) s.heap s.heap [] := va_S.rf
  have hP : va_P D vwCl (pm_mo y q S gp gs kn ln sv pd) s.heap := hP
  have hl := lv_entry ([.ref (q 0), .int (nI j)]) (n := 3) (Nat.le_of_ble_eq_true rfl)
  rw [lg_entry_eq]
  generalize (lg_sl ([.ref (q 0), .int (nI j)]) ++ List.replicate (3 - (lg_sl ([.ref (q 0), .int (nI j)])).length) Slot.unset).toArray = ls at hl ⊢
  have hl : lv_has ls 3 [(0, .ref (q 0)), (1, .int (nI j))] := hl
  refine lv_iload_n hx hb dX4_save_0 rfl (lv_at hl 1 rfl) ?_
  refine lv_iconst (v := nI 0) hx hb dX4_save_1 (by decide) ?_
  refine lv_iconst (v := nI 1) hx hb dX4_save_2 (by decide) ?_
  refine vp_callSi (W.runS (As := [.int (nI j), .int (nI 0), .int (nI 1)]) (rest := []) ⟨hx, hb, hml, hown, hts⟩ (k_X4_in l (nI j) (nI 0) (nI 1)) (va_cwS 3 hts gX4_save_X4_in rfl rfl rfl hd_X4_in ⟨Nat.le_of_ble_eq_true rfl, Nat.le_of_ble_eq_true rfl⟩) ⟨pm_no_blind, pm_no_pre⟩ rfl rfl hl.1 rfl (lv_room (Nat.le_of_ble_eq_true rfl)) dX4_save_3 ⟨Nat.le_of_ble_eq_true rfl, Nat.le_of_ble_eq_true rfl⟩) (fun r1 h2 => ?_)
  rcases (show ((nI 0 ≤ nI j ∧ nI j ≤ nI 1) ∧ r1 = nI 1) ∨ (¬ (nI 0 ≤ nI j ∧ nI j ≤ nI 1) ∧ r1 = nI 0) from h2) with ⟨hp3, rfl⟩ | ⟨hp3, rfl⟩
  · replace hp3 := (pm_in_n (by omega) (by decide) (by decide)).mp hp3
    refine lv_if_ne (tgt := 12) hx hb dX4_save_6 (by decide) (fun _ => ?_) (fun c4 => absurd c4 (by decide))
    refine lv_iconst (v := nI 0) hx hb dX4_save_12 (by decide) ?_
    refine lv_istore_n (lv' := [(2, .int (nI 0)), (0, .ref (q 0)), (1, .int (nI j))]) hx hb dX4_save_13 rfl hl (by decide) rfl (fun ls hl => ?_)
    have LOOP14 : ∀ (n k : Nat) (ls : Array Slot) (H : Heap) (locs : List Loc), va_P D vwCl (pm_mo y q S gp (pm_sh2 gs (172 * j) S k) kn ln sv pd) H → va_D (pm_ad (pm_mo y q S gp gs kn ln sv pd)) (pm_mo y q S gp (pm_sh2 gs (172 * j) S k) kn ln sv pd) → va_S (pm_ad (pm_mo y q S gp gs kn ln sv pd)) s.heap H locs → k ≤ 172 → 172 - k < n → lv_has ls 3 [(0, .ref (q 0)), (1, .int (nI j)), (2, .int (nI k))] → W p l e (headSpec wsX4_save ({ frames := 1, cells := 0, slots := 0, locals := 22 } : Room)).room s m ([.ref (q 0), .int (nI j)] : List Value).toArray below meth c H locs 0 0 (MQ below (pm_Qi D (fun (r : Int32) (u : Nat → Int32) => r = nI (S 10 0) ∧ pm_MS u (updN sv j 1) (pm_slp Sl j S)) (fun (u : Nat → Int32) => pm_mo y q S gp u kn ln (updN sv j 1) pd) (pm_mo y q S gp gs kn ln sv pd)) ([.ref (q 0), .int (nI j)] : List Value).toArray s 0 0 (pm_ad (pm_mo y q S gp gs kn ln sv pd))) (F0 m 14 ls []) := by
      intro n
      induction n with
      | zero => intro k _ _ _ _ _ _ hi hn; omega
      | succ n ih5 =>
        intro k ls H locs  hP hD hS hi_k hn_k hl 
        refine lv_iload_n hx hb dX4_save_14 rfl (lv_at hl 2 rfl) ?_
        refine lv_sipush (v := nI 172) hx hb dX4_save_15 (by decide) ?_
        refine kx_icmp_ge (tgt := 45) hx hb (by omega) (by decide) dX4_save_18 (by decide) (fun c6 => ?_) (fun c6 => ?_)
        · skip
          obtain rfl : k = 172 := by omega
          refine lv_aload_n hx hb dX4_save_45 rfl (lv_at hl 0 rfl) ?_
          refine va_get (D := D) (ci := 4) (v := .ref (q 4)) (C := RX4) (T := TX4) (N := 7) hx hb hts hin4 hown hK hP 0 rfl rfl 4 (by decide) (hts (.fieldLink RX4 19 "ProofMarksModel" "isSaved" "[Z") (List.mem_of_getElem? (i := 3) rfl)) (fun _ h9 => h9) rfl dX4_save_46 ?_
          refine lv_iload_n hx hb dX4_save_49 rfl (lv_at hl 1 rfl) ?_
          refine lv_iconst (v := nI 1) hx hb dX4_save_50 (by decide) ?_
          refine kx_zast1 (ws' := pm_mo y q S gp (pm_sh2 gs (172 * j) S 172) kn ln (updN sv j 1) pd) hx hb hK hP hD hS 4 2 rfl rfl (by omega) (by decide) (pm_vn_u _ _ _) rfl dX4_save_51 (fun H locs hP hD hS => ?_)
          refine lv_aload_n hx hb dX4_save_52 rfl (lv_at hl 0 rfl) ?_
          refine va_get (D := D) (ci := 4) (v := .ref (q 1)) (C := RX4) (T := TX4) (N := 7) hx hb hts hin4 hown hK hP 0 rfl rfl 0 (by decide) (hts (.fieldLink RX4 7 "ProofMarksModel" "s" "[I") (List.mem_of_getElem? (i := 2) rfl)) (fun _ h9 => h9) rfl dX4_save_53 ?_
          refine lv_sipush (v := nI 166) hx hb dX4_save_56 (by decide) ?_
          refine kx_iald (v := nI (S 10 0)) hx hb hK hP 1 0 rfl rfl (by omega) (by decide) (pm_ms_r (S := S) (k := 0) (by decide)) dX4_save_59 ?_
          exact W.iret hx hb hr (fun t ht _ => ⟨⟨_, (pm_sh2 gs (172 * j) S 172), rfl, ⟨rfl, pm_MS_save hj hMS⟩, (by show va_P D vwCl (pm_mo y q S gp (pm_sh2 gs (172 * j) S 172) kn ln (updN sv j 1) pd) t.heap; rw [ht]; exact hP)⟩, hS.F ht⟩) hS.2.2 dX4_save_60
        · skip
          refine lv_aload_n hx hb dX4_save_21 rfl (lv_at hl 0 rfl) ?_
          refine va_get (D := D) (ci := 4) (v := .ref (q 3)) (C := RX4) (T := TX4) (N := 7) hx hb hts hin4 hown hK hP 0 rfl rfl 3 (by decide) (hts (.fieldLink RX4 16 "ProofMarksModel" "slots" "[I") (List.mem_of_getElem? (i := 1) rfl)) (fun _ h9 => h9) rfl dX4_save_22 ?_
          refine lv_sipush (v := nI 172) hx hb dX4_save_25 (by decide) ?_
          refine lv_iload_n hx hb dX4_save_28 rfl (lv_at hl 1 rfl) ?_
          refine kx_imul hx hb dX4_save_29 ?_
          refine lv_iload_n hx hb dX4_save_30 rfl (lv_at hl 2 rfl) ?_
          refine kx_iadd hx hb dX4_save_31 ?_
          refine lv_aload_n hx hb dX4_save_32 rfl (lv_at hl 0 rfl) ?_
          refine va_get (D := D) (ci := 4) (v := .ref (q 1)) (C := RX4) (T := TX4) (N := 7) hx hb hts hin4 hown hK hP 0 rfl rfl 0 (by decide) (hts (.fieldLink RX4 7 "ProofMarksModel" "s" "[I") (List.mem_of_getElem? (i := 2) rfl)) (fun _ h9 => h9) rfl dX4_save_33 ?_
          refine lv_iload_n hx hb dX4_save_36 rfl (lv_at hl 2 rfl) ?_
          refine kx_iald (v := pm_ms S k) hx hb hK hP 1 0 rfl rfl (by omega) (by decide) rfl dX4_save_37 ?_
          refine kx_iast (ws' := pm_mo y q S gp (pm_sh2 gs (172 * j) S (k + 1)) kn ln sv pd) hx hb hK hP hD hS 3 0 rfl rfl (by omega) (by decide) (pm_sh2_s gs (172 * j) S k) rfl dX4_save_38 (fun H locs hP hD hS => ?_)
          refine kx_iinc (a := k) (lv' := [(2, .int (nI (k + 1))), (0, .ref (q 0)), (1, .int (nI j))]) hx hb dX4_save_39 hl (k := 2) rfl (by decide) rfl (fun ls hl => ?_)
          refine lv_goto (tgt := 14) hx hb dX4_save_42 (by decide) ?_
          exact ih5 (k + 1) ls H locs hP hD hS (by omega) (by omega) (by exact lv_sub hl [1, 2, 0] rfl) 
    exact LOOP14 (172 + 1) 0 ls _ _ (by rw [pm_sh2_0]; exact hP) (by rw [pm_sh2_0]; exact hD) hS (by omega) (by omega) (lv_sub hl [1, 2, 0] rfl) 
  · replace hp3 := mt (pm_in_n (by omega) (by decide) (by decide)).mpr hp3
    refine lv_if_ne (tgt := 12) hx hb dX4_save_6 (by decide) (fun c7 => (c7 (by decide)).elim) (fun _ => ?_)
    refine lv_bipush (v := (-2)) hx hb dX4_save_9 (by decide) ?_
    exact W.iret hx hb hr (fun t ht _ => ⟨⟨_, (pm_sh2 gs (172 * j) S 172), rfl, (by exfalso; omega), (by show va_P D vwCl (pm_mo y q S gp (pm_sh2 gs (172 * j) S 172) kn ln (updN sv j 1) pd) t.heap; rw [ht]; exact (by exfalso; omega))⟩, hS.F ht⟩) hS.2.2 dX4_save_11

set_option maxHeartbeats 4000000 in
set_option maxRecDepth 100000 in
theorem k_X4_restore_o (l : Launch) (D : va_G) (y : Nat → ClassId) (q : Nat → Nat) (S : Nat → Nat → Nat) (gp gs : Nat → Int32) (kn ln : Nat) (sv pd : Nat → Nat) (xs : Int32) (ho : xs < 0 ∨ nI 2 ≤ xs) : Met l yX4_restore wsX4_restore ({ frames := 1, cells := 0, slots := 0, locals := 22 } : Room) (pm_ro D (pm_ty y) [.ref (q 0), .int xs] (pm_mo y q S gp gs kn ln sv pd)) (vp_Si (fun r : Int32 => r = -2)) 0 0 (fun _ => False) := by
  refine Met.ofW (cc := cX4_restore) (maxL := 3) (ret := (some .int)) (by decide) rfl ?_
  intro p e s m args below meth c s₁ B hml hpre
  obtain ⟨rfl, hP, hK⟩ := hpre
  have hx := B.exec
  have hb := B.bytes
  have hr := B.returns
  have hts := atoms_spec (ws := wsX4_restore) B.pre
  have hown : s.vm.findClass RX4 = some m.cls := findClass_of_methodNamed B.named
  have hlocks := B.notSynchronized
  have hin4 : ∀ w ∈ u_ws RX4 TX4 7, w ∈ wsX4_restore := fun w h => List.mem_cons_of_mem _ (List.mem_append_right _ h)
  have hP : va_P D vwCl (pm_mo y q S gp gs kn ln sv pd) s.heap := hP
  have hl := lv_entry ([.ref (q 0), .int xs]) (n := 3) (Nat.le_of_ble_eq_true rfl)
  rw [lg_entry_eq]
  generalize (lg_sl ([.ref (q 0), .int xs]) ++ List.replicate (3 - (lg_sl ([.ref (q 0), .int xs])).length) Slot.unset).toArray = ls at hl ⊢
  have hl : lv_has ls 3 [(0, .ref (q 0)), (1, .int xs)] := hl
  refine lv_iload_n hx hb dX4_restore_0 rfl (lv_at hl 1 rfl) ?_
  refine lv_iconst (v := nI 0) hx hb dX4_restore_1 (by decide) ?_
  refine lv_iconst (v := nI 1) hx hb dX4_restore_2 (by decide) ?_
  refine vp_callSi (W.runS (As := [.int xs, .int (nI 0), .int (nI 1)]) (rest := []) ⟨hx, hb, hml, hown, hts⟩ (k_X4_in l xs (nI 0) (nI 1)) (va_cwS 3 hts gX4_restore_X4_in rfl rfl rfl hd_X4_in ⟨Nat.le_of_ble_eq_true rfl, Nat.le_of_ble_eq_true rfl⟩) ⟨pm_no_blind, pm_no_pre⟩ rfl rfl hl.1 rfl (lv_room (Nat.le_of_ble_eq_true rfl)) dX4_restore_3 ⟨Nat.le_of_ble_eq_true rfl, Nat.le_of_ble_eq_true rfl⟩) (fun r1 h2 => ?_)
  rcases (show ((nI 0 ≤ xs ∧ xs ≤ nI 1) ∧ r1 = nI 1) ∨ (¬ (nI 0 ≤ xs ∧ xs ≤ nI 1) ∧ r1 = nI 0) from h2) with ⟨hp3, rfl⟩ | ⟨hp3, rfl⟩
  · exact (pm_no2 (n := 1) (a := 0) ho (by decide) (by decide) hp3).elim
  · skip
    refine lv_if_ne (tgt := 12) hx hb dX4_restore_6 (by decide) (fun c4 => (c4 (by decide)).elim) (fun _ => ?_)
    refine lv_bipush (v := (-2)) hx hb dX4_restore_9 (by decide) ?_
    exact W.iret hx hb hr (fun t ht _ => ⟨_, rfl, rfl, ht⟩) (fun _ h => absurd h List.not_mem_nil) dX4_restore_11

set_option maxHeartbeats 4000000 in
set_option maxRecDepth 100000 in
theorem k_X4_restore_n (l : Launch) (D : va_G) (y : Nat → ClassId) (q : Nat → Nat) (S : Nat → Nat → Nat) (gp gs : Nat → Int32) (kn ln : Nat) (sv pd : Nat → Nat) (j : Nat) (hj : j < 2) (hsv : sv j = 0) : Met l yX4_restore wsX4_restore ({ frames := 1, cells := 0, slots := 0, locals := 22 } : Room) (pm_ro D (pm_ty y) [.ref (q 0), .int (nI j)] (pm_mo y q S gp gs kn ln sv pd)) (vp_Si (fun r : Int32 => r = -5)) 0 0 (fun _ => False) := by
  refine Met.ofW (cc := cX4_restore) (maxL := 3) (ret := (some .int)) (by decide) rfl ?_
  intro p e s m args below meth c s₁ B hml hpre
  obtain ⟨rfl, hP, hK⟩ := hpre
  have hx := B.exec
  have hb := B.bytes
  have hr := B.returns
  have hts := atoms_spec (ws := wsX4_restore) B.pre
  have hown : s.vm.findClass RX4 = some m.cls := findClass_of_methodNamed B.named
  have hlocks := B.notSynchronized
  have hin4 : ∀ w ∈ u_ws RX4 TX4 7, w ∈ wsX4_restore := fun w h => List.mem_cons_of_mem _ (List.mem_append_right _ h)
  have hP : va_P D vwCl (pm_mo y q S gp gs kn ln sv pd) s.heap := hP
  have hl := lv_entry ([.ref (q 0), .int (nI j)]) (n := 3) (Nat.le_of_ble_eq_true rfl)
  rw [lg_entry_eq]
  generalize (lg_sl ([.ref (q 0), .int (nI j)]) ++ List.replicate (3 - (lg_sl ([.ref (q 0), .int (nI j)])).length) Slot.unset).toArray = ls at hl ⊢
  have hl : lv_has ls 3 [(0, .ref (q 0)), (1, .int (nI j))] := hl
  refine lv_iload_n hx hb dX4_restore_0 rfl (lv_at hl 1 rfl) ?_
  refine lv_iconst (v := nI 0) hx hb dX4_restore_1 (by decide) ?_
  refine lv_iconst (v := nI 1) hx hb dX4_restore_2 (by decide) ?_
  refine vp_callSi (W.runS (As := [.int (nI j), .int (nI 0), .int (nI 1)]) (rest := []) ⟨hx, hb, hml, hown, hts⟩ (k_X4_in l (nI j) (nI 0) (nI 1)) (va_cwS 3 hts gX4_restore_X4_in rfl rfl rfl hd_X4_in ⟨Nat.le_of_ble_eq_true rfl, Nat.le_of_ble_eq_true rfl⟩) ⟨pm_no_blind, pm_no_pre⟩ rfl rfl hl.1 rfl (lv_room (Nat.le_of_ble_eq_true rfl)) dX4_restore_3 ⟨Nat.le_of_ble_eq_true rfl, Nat.le_of_ble_eq_true rfl⟩) (fun r1 h2 => ?_)
  rcases (show ((nI 0 ≤ nI j ∧ nI j ≤ nI 1) ∧ r1 = nI 1) ∨ (¬ (nI 0 ≤ nI j ∧ nI j ≤ nI 1) ∧ r1 = nI 0) from h2) with ⟨hp3, rfl⟩ | ⟨hp3, rfl⟩
  · replace hp3 := (pm_in_n (by omega) (by decide) (by decide)).mp hp3
    refine lv_if_ne (tgt := 12) hx hb dX4_restore_6 (by decide) (fun _ => ?_) (fun c4 => absurd c4 (by decide))
    refine lv_aload_n hx hb dX4_restore_12 rfl (lv_at hl 0 rfl) ?_
    refine va_get (D := D) (ci := 4) (v := .ref (q 4)) (C := RX4) (T := TX4) (N := 7) hx hb hts hin4 hown hK hP 0 rfl rfl 4 (by decide) (hts (.fieldLink RX4 19 "ProofMarksModel" "isSaved" "[Z") (List.mem_of_getElem? (i := 1) rfl)) (fun _ h9 => h9) rfl dX4_restore_13 ?_
    refine lv_iload_n hx hb dX4_restore_16 rfl (lv_at hl 1 rfl) ?_
    refine kx_zald (v := nI (sv j)) hx hb hK hP 4 2 rfl rfl (by omega) (by decide) rfl dX4_restore_17 ?_
    refine kx_if_ne (tgt := 24) hx hb (by omega) dX4_restore_18 (by decide) (fun c5 => by exfalso; omega) (fun c5 => ?_)
    refine lv_bipush (v := (-5)) hx hb dX4_restore_21 (by decide) ?_
    exact W.iret hx hb hr (fun t ht _ => ⟨_, rfl, (by first | rfl | (exfalso; omega)), ht⟩) (fun _ h => absurd h List.not_mem_nil) dX4_restore_23
  · replace hp3 := mt (pm_in_n (by omega) (by decide) (by decide)).mpr hp3
    refine lv_if_ne (tgt := 12) hx hb dX4_restore_6 (by decide) (fun c6 => (c6 (by decide)).elim) (fun _ => ?_)
    refine lv_bipush (v := (-2)) hx hb dX4_restore_9 (by decide) ?_
    exact W.iret hx hb hr (fun t ht _ => ⟨_, rfl, (by first | rfl | (exfalso; omega)), ht⟩) (fun _ h => absurd h List.not_mem_nil) dX4_restore_11

set_option maxHeartbeats 4000000 in
set_option maxRecDepth 100000 in
theorem k_X4_restore (l : Launch) (D : va_G) (y : Nat → ClassId) (q : Nat → Nat) (S : Nat → Nat → Nat) (gp gs : Nat → Int32) (kn ln : Nat) (sv pd : Nat → Nat) (Hs Sl : Nat → Nat → Nat → Nat) (j : Nat) (hj : j < 2) (hsv : sv j = 1) (hMS : pm_MS gs sv Sl) (hk : kn ≤ 6) (hM : pm_MH gp kn Hs) : Met l yX4_restore wsX4_restore ({ frames := 1, cells := 0, slots := 0, locals := 22 } : Room) (pm_wr D (pm_ty y) [.ref (q 0), .int (nI j)] (pm_mo y q S gp gs kn ln sv pd)) (pm_Qi D (fun (r : Int32) (u : Nat → Int32) => r = nI (Sl j 10 0) ∧ pm_MH u (pm_kn kn) (pm_push Hs kn S)) (fun (u : Nat → Int32) => pm_mo y q (Sl j) u gs (pm_kn kn) ln sv pd) (pm_mo y q S gp gs kn ln sv pd)) 0 0 (pm_ad (pm_mo y q S gp gs kn ln sv pd)) := by
  refine Met.ofW (cc := cX4_restore) (maxL := 3) (ret := (some .int)) (by decide) rfl ?_
  intro p e s m args below meth c s₁ B hml hpre
  obtain ⟨rfl, hP, hK, hD0⟩ := hpre
  have hx := B.exec
  have hb := B.bytes
  have hr := B.returns
  have hts := atoms_spec (ws := wsX4_restore) B.pre
  have hown : s.vm.findClass RX4 = some m.cls := findClass_of_methodNamed B.named
  have hlocks := B.notSynchronized
  have hin4 : ∀ w ∈ u_ws RX4 TX4 7, w ∈ wsX4_restore := fun w h => List.mem_cons_of_mem _ (List.mem_append_right _ h)
  have hD := pm_ad_self hD0
  have hS : va_S (pm_ad (pm_mo y q S gp gs kn ln sv pd)) s.heap s.heap [] := va_S.rf
  have hP : va_P D vwCl (pm_mo y q S gp gs kn ln sv pd) s.heap := hP
  have hl := lv_entry ([.ref (q 0), .int (nI j)]) (n := 3) (Nat.le_of_ble_eq_true rfl)
  rw [lg_entry_eq]
  generalize (lg_sl ([.ref (q 0), .int (nI j)]) ++ List.replicate (3 - (lg_sl ([.ref (q 0), .int (nI j)])).length) Slot.unset).toArray = ls at hl ⊢
  have hl : lv_has ls 3 [(0, .ref (q 0)), (1, .int (nI j))] := hl
  refine lv_iload_n hx hb dX4_restore_0 rfl (lv_at hl 1 rfl) ?_
  refine lv_iconst (v := nI 0) hx hb dX4_restore_1 (by decide) ?_
  refine lv_iconst (v := nI 1) hx hb dX4_restore_2 (by decide) ?_
  refine vp_callSi (W.runS (As := [.int (nI j), .int (nI 0), .int (nI 1)]) (rest := []) ⟨hx, hb, hml, hown, hts⟩ (k_X4_in l (nI j) (nI 0) (nI 1)) (va_cwS 3 hts gX4_restore_X4_in rfl rfl rfl hd_X4_in ⟨Nat.le_of_ble_eq_true rfl, Nat.le_of_ble_eq_true rfl⟩) ⟨pm_no_blind, pm_no_pre⟩ rfl rfl hl.1 rfl (lv_room (Nat.le_of_ble_eq_true rfl)) dX4_restore_3 ⟨Nat.le_of_ble_eq_true rfl, Nat.le_of_ble_eq_true rfl⟩) (fun r1 h2 => ?_)
  rcases (show ((nI 0 ≤ nI j ∧ nI j ≤ nI 1) ∧ r1 = nI 1) ∨ (¬ (nI 0 ≤ nI j ∧ nI j ≤ nI 1) ∧ r1 = nI 0) from h2) with ⟨hp3, rfl⟩ | ⟨hp3, rfl⟩
  · replace hp3 := (pm_in_n (by omega) (by decide) (by decide)).mp hp3
    refine lv_if_ne (tgt := 12) hx hb dX4_restore_6 (by decide) (fun _ => ?_) (fun c4 => absurd c4 (by decide))
    refine lv_aload_n hx hb dX4_restore_12 rfl (lv_at hl 0 rfl) ?_
    refine va_get (D := D) (ci := 4) (v := .ref (q 4)) (C := RX4) (T := TX4) (N := 7) hx hb hts hin4 hown hK hP 0 rfl rfl 4 (by decide) (hts (.fieldLink RX4 19 "ProofMarksModel" "isSaved" "[Z") (List.mem_of_getElem? (i := 1) rfl)) (fun _ h9 => h9) rfl dX4_restore_13 ?_
    refine lv_iload_n hx hb dX4_restore_16 rfl (lv_at hl 1 rfl) ?_
    refine kx_zald (v := nI (sv j)) hx hb hK hP 4 2 rfl rfl (by omega) (by decide) rfl dX4_restore_17 ?_
    refine kx_if_ne (tgt := 24) hx hb (by omega) dX4_restore_18 (by decide) (fun c5 => ?_) (fun c5 => by exfalso; omega)
    refine lv_aload_n hx hb dX4_restore_24 rfl (lv_at hl 0 rfl) ?_
    refine va_callv (va_runV (As := []) (rest := []) ⟨hx, hb, hml, hown, hts⟩ (k_X4_remembers l D y q S gp gs kn ln sv pd Hs hk hM) (cwV 0 hts gX4_restore_X4_remembers rfl rfl rfl hd_X4_remembers ⟨Nat.le_of_ble_eq_true rfl, Nat.le_of_ble_eq_true rfl⟩) ⟨pm_wr_blind, va_recv hK hP (ci := 4) (q0 := 0) rfl rfl, pm_wr_pre hP hK hD⟩ rfl rfl hl.1 rfl (lv_room (Nat.le_of_ble_eq_true rfl)) dX4_restore_25 ⟨Nat.le_of_ble_eq_true rfl, Nat.le_of_ble_eq_true rfl⟩) hS (fun q _ h9 => (pm_ad_all hD) q h9) (pm_ad_all hD) (fun u12 t8 H1 locs ht9 _ h7 hB10 _ hk11 hS => ?_)
    obtain ⟨hP, hD⟩ := pm_all (D := D) (cl := vwCl) (H1 := H1) hD (w' := pm_mo y q S u12 gs (pm_kn kn) ln sv pd) (by rw [← ht9]; exact hB10) (pm_mo_ad _ _ _ _ _ _ _ _ _ _ _ _ _ _ _ _)
    generalize H1 = H at hP hS ⊢
    have hM := h7
    refine lv_iconst (v := nI 0) hx hb dX4_restore_28 (by decide) ?_
    refine lv_istore_n (lv' := [(2, .int (nI 0)), (0, .ref (q 0)), (1, .int (nI j))]) hx hb dX4_restore_29 rfl hl (by decide) rfl (fun ls hl => ?_)
    have LOOP30 : ∀ (n k : Nat) (ls : Array Slot) (H : Heap) (locs : List Loc), va_P D vwCl (pm_mor y q (pm_cp2 (pm_ms S) (pm_off gs (172 * j)) k) u12 gs (pm_kn kn) ln sv pd) H → va_D (pm_ad (pm_mo y q S gp gs kn ln sv pd)) (pm_mor y q (pm_cp2 (pm_ms S) (pm_off gs (172 * j)) k) u12 gs (pm_kn kn) ln sv pd) → va_S (pm_ad (pm_mo y q S gp gs kn ln sv pd)) s.heap H locs → k ≤ 172 → 172 - k < n → lv_has ls 3 [(0, .ref (q 0)), (1, .int (nI j)), (2, .int (nI k))] → W p l e (headSpec wsX4_restore ({ frames := 1, cells := 0, slots := 0, locals := 22 } : Room)).room s m ([.ref (q 0), .int (nI j)] : List Value).toArray below meth c H locs 0 0 (MQ below (pm_Qi D (fun (r : Int32) (u : Nat → Int32) => r = nI (Sl j 10 0) ∧ pm_MH u (pm_kn kn) (pm_push Hs kn S)) (fun (u : Nat → Int32) => pm_mo y q (Sl j) u gs (pm_kn kn) ln sv pd) (pm_mo y q S gp gs kn ln sv pd)) ([.ref (q 0), .int (nI j)] : List Value).toArray s 0 0 (pm_ad (pm_mo y q S gp gs kn ln sv pd))) (F0 m 30 ls []) := by
      intro n
      induction n with
      | zero => intro k _ _ _ _ _ _ hi hn; omega
      | succ n ih13 =>
        intro k ls H locs  hP hD hS hi_k hn_k hl 
        refine lv_iload_n hx hb dX4_restore_30 rfl (lv_at hl 2 rfl) ?_
        refine lv_sipush (v := nI 172) hx hb dX4_restore_31 (by decide) ?_
        refine kx_icmp_ge (tgt := 61) hx hb (by omega) (by decide) dX4_restore_34 (by decide) (fun c14 => ?_) (fun c14 => ?_)
        · skip
          obtain rfl : k = 172 := by omega
          obtain ⟨hP, hD⟩ := pm_mor_mo (T := Sl j) hP hD (fun i hi => hMS j hj hsv i hi)
          refine lv_aload_n hx hb dX4_restore_61 rfl (lv_at hl 0 rfl) ?_
          refine va_get (D := D) (ci := 4) (v := .ref (q 1)) (C := RX4) (T := TX4) (N := 7) hx hb hts hin4 hown hK hP 0 rfl rfl 0 (by decide) (hts (.fieldLink RX4 7 "ProofMarksModel" "s" "[I") (List.mem_of_getElem? (i := 2) rfl)) (fun _ h9 => h9) rfl dX4_restore_62 ?_
          refine lv_sipush (v := nI 166) hx hb dX4_restore_65 (by decide) ?_
          refine kx_iald (v := nI ((Sl j) 10 0)) hx hb hK hP 1 0 rfl rfl (by omega) (by decide) (pm_ms_r (S := (Sl j)) (k := 0) (by decide)) dX4_restore_68 ?_
          exact W.iret hx hb hr (fun t ht _ => ⟨⟨_, u12, rfl, ⟨rfl, hM⟩, (by show va_P D vwCl (pm_mo y q (Sl j) u12 gs (pm_kn kn) ln sv pd) t.heap; rw [ht]; exact hP)⟩, hS.F ht⟩) hS.2.2 dX4_restore_69
        · skip
          refine lv_aload_n hx hb dX4_restore_37 rfl (lv_at hl 0 rfl) ?_
          refine va_get (D := D) (ci := 4) (v := .ref (q 1)) (C := RX4) (T := TX4) (N := 7) hx hb hts hin4 hown hK hP 0 rfl rfl 0 (by decide) (hts (.fieldLink RX4 7 "ProofMarksModel" "s" "[I") (List.mem_of_getElem? (i := 2) rfl)) (fun _ h9 => h9) rfl dX4_restore_38 ?_
          refine lv_iload_n hx hb dX4_restore_41 rfl (lv_at hl 2 rfl) ?_
          refine lv_aload_n hx hb dX4_restore_42 rfl (lv_at hl 0 rfl) ?_
          refine va_get (D := D) (ci := 4) (v := .ref (q 3)) (C := RX4) (T := TX4) (N := 7) hx hb hts hin4 hown hK hP 0 rfl rfl 3 (by decide) (hts (.fieldLink RX4 16 "ProofMarksModel" "slots" "[I") (List.mem_of_getElem? (i := 3) rfl)) (fun _ h9 => h9) rfl dX4_restore_43 ?_
          refine lv_sipush (v := nI 172) hx hb dX4_restore_46 (by decide) ?_
          refine lv_iload_n hx hb dX4_restore_49 rfl (lv_at hl 1 rfl) ?_
          refine kx_imul hx hb dX4_restore_50 ?_
          refine lv_iload_n hx hb dX4_restore_51 rfl (lv_at hl 2 rfl) ?_
          refine kx_iadd hx hb dX4_restore_52 ?_
          refine kx_iald (v := gs ((172 * j) + k)) hx hb hK hP 3 0 rfl rfl (by omega) (by decide) rfl dX4_restore_53 ?_
          refine kx_iast (ws' := pm_mor y q (pm_cp2 (pm_ms S) (pm_off gs (172 * j)) (k + 1)) u12 gs (pm_kn kn) ln sv pd) hx hb hK hP hD hS 1 0 rfl rfl (by omega) (by decide) (pm_cp2_s (pm_ms S) (pm_off gs (172 * j)) k) rfl dX4_restore_54 (fun H locs hP hD hS => ?_)
          refine kx_iinc (a := k) (lv' := [(2, .int (nI (k + 1))), (0, .ref (q 0)), (1, .int (nI j))]) hx hb dX4_restore_55 hl (k := 2) rfl (by decide) rfl (fun ls hl => ?_)
          refine lv_goto (tgt := 30) hx hb dX4_restore_58 (by decide) ?_
          exact ih13 (k + 1) ls H locs hP hD hS (by omega) (by omega) (by exact lv_sub hl [1, 2, 0] rfl) 
    exact LOOP30 (172 + 1) 0 ls H locs (by rw [pm_cp2_0]; exact hP) (by rw [pm_cp2_0]; exact hD) hS (by omega) (by omega) (lv_sub hl [1, 2, 0] rfl) 
  · replace hp3 := mt (pm_in_n (by omega) (by decide) (by decide)).mpr hp3
    refine lv_if_ne (tgt := 12) hx hb dX4_restore_6 (by decide) (fun c15 => (c15 (by decide)).elim) (fun _ => ?_)
    refine lv_bipush (v := (-2)) hx hb dX4_restore_9 (by decide) ?_
    exact W.iret hx hb hr (fun t ht _ => ⟨⟨_, gp, rfl, (by exfalso; omega), (by show va_P D vwCl (pm_mo y q (Sl j) gp gs (pm_kn kn) ln sv pd) t.heap; rw [ht]; exact (by exfalso; omega))⟩, hS.F ht⟩) hS.2.2 dX4_restore_11
