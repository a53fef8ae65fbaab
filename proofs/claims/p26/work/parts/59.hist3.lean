theorem pm_same3 {D : va_G} {y : Nat → ClassId} {s : State} {cA : ClassId} (hK : va_K D vwCl (pm_ty y) s) (h : va_K D vwCl (pm_ty y ++ [(cA, .object RX2)]) s) : cA = y 3 := by
  obtain ⟨k1, c1, -, -, -, h1⟩ := (hK.2 3 _ rfl).2
  obtain ⟨k2, c2, -, -, -, h2⟩ := (h.2 4 _ rfl).2
  first | exact Option.some.inj (h2.symm.trans h1) | exact Option.some.inj (h2.1.symm.trans h1.1)
def pm_mkq (D : va_G) (tys : List (ClassId × FieldType)) (av : List Value) (w : va_W) (sz : Nat) : Array Value → State → Prop := va_Pc av (fun U => (U.heap.size = sz ∧ va_P D vwCl w U.heap ∧ va_K D vwCl tys U ∧ va_D (fun _ => True) w) ∧ va_AO RX2 U)
theorem pm_mkq_blind {D : va_G} {tys : List (ClassId × FieldType)} {av : List Value} {w : va_W} {sz : Nat} : FrameBlind (pm_mkq D tys av w sz) := fun _ U g mk q => ⟨q.1, ⟨q.2.1.1, q.2.1.2.1, va_K.moved (u := U) (U := U.calling g mk _) (Vm.Alike.refl U.vm) q.2.1.2.2.1, q.2.1.2.2.2⟩, va_AO.moved (u := U) (U := U.calling g mk _) (Vm.Alike.refl U.vm) q.2.2⟩
theorem pm_mkq_pre {D : va_G} {tys : List (ClassId × FieldType)} {av : List Value} {w : va_W} {s : State} {H : Heap} {A : Nat → Prop} (hP : va_P D vwCl w H) (hK : va_K D vwCl tys s) (hD : va_D A w) (hO : va_AO RX2 s) : ∀ U : State, U.heap = H → s.WarmedH U.vm → pm_mkq D tys av w H.size av.toArray U := fun U hU hW => ⟨rfl, ⟨by rw [hU], by rw [hU]; exact hP, va_K.moved hW.alike hK, hD.weaken (fun _ _ _ _ => trivial)⟩, va_AO.moved hW.alike hO⟩
theorem pm_fi_0 (b : Nat → Nat → Nat) : pm_fi b 0 = fun _ => none := by
  funext j
  exact if_neg (Nat.not_lt_zero j)
theorem pm_app_sh (W : va_W) (y : Nat → ClassId) (u : Nat → Nat) (S : Nat → Nat → Nat) : ∃ (k : Nat) (vs : List Value), (W ++ pm_shS y u S)[k]? = some (u 0, .inr (2, vs)) := ⟨W.length, _, by rw [List.getElem?_append_right (Nat.le_refl _), Nat.sub_self]; rfl⟩
theorem pm_born2 : ∀ j, j < 15 → defaultValue (tyX2 j) = vp_V [.null, .null, .null, .null, .null, .null, .null, .null, .null, .null, .null, .null, .int 0, .int 0, .int 0] j := by
  intro j hj
  rcases (show j = 0 ∨ j = 1 ∨ j = 2 ∨ j = 3 ∨ j = 4 ∨ j = 5 ∨ j = 6 ∨ j = 7 ∨ j = 8 ∨ j = 9 ∨ j = 10 ∨ j = 11 ∨ j = 12 ∨ j = 13 ∨ j = 14 by omega) with rfl | rfl | rfl | rfl | rfl | rfl | rfl | rfl | rfl | rfl | rfl | rfl | rfl | rfl | rfl <;> rfl

set_option maxHeartbeats 4000000 in
set_option maxRecDepth 100000 in
theorem k_X0_init (l : Launch) (D : va_G) (y : Nat → ClassId) (a0 sz : Nat)  : Met l yX0_init wsX0_init ({ frames := 2, cells := 92, slots := 1512, locals := 33 } : Room) (pm_mkq D (pm_ty y) [.ref a0] ([(a0, .inr (0, [.null, .int 0]))]) sz) (pm_Qm D (fun (u : (Nat → Nat) × (Nat → Nat → Nat)) => u.1 0 = a0) (fun (u : (Nat → Nat) × (Nat → Nat → Nat)) => pm_hi y u.1 u.2 (fun _ => pm_S0) (pm_rf u.2 (fun j => j)) 0) ([(a0, .inr (0, [.null, .int 0]))]) sz) 92 1512 (va_A ([(a0, .inr (0, [.null, .int 0]))]) sz) := by
  refine Met.ofW (cc := cX0_init) (maxL := 2) (ret := none) (by decide) rfl ?_
  intro p e s m args below meth c s₁ B hml hpre
  obtain ⟨rfl, ⟨hsz, hP, hK, hD0⟩, hO⟩ := hpre
  have hx := B.exec
  have hb := B.bytes
  have hr := B.returns
  have hts := atoms_spec (ws := wsX0_init) B.pre
  have hown : s.vm.findClass RX0 = some m.cls := findClass_of_methodNamed B.named
  have hlocks := B.notSynchronized
  have hin : meth.name = "<init>" := (name_of_methodNamed B.named B.method).1
  have hin0 : ∀ w ∈ u_ws RX0 TX0 2, w ∈ wsX0_init := fun w h => List.mem_cons_of_mem _ (List.mem_append_left _ (List.mem_append_right _ h))
  have hin2 : ∀ w ∈ u_ws RX2 TX2 15, w ∈ wsX0_init := fun w h => List.mem_cons_of_mem _ (List.mem_append_right _ h)
  have hP : va_P D vwCl ([(a0, .inr (0, [.null, .int 0]))]) s.heap := hP
  subst hsz
  have hD := hD0.self (sz := s.heap.size)
  unfold pm_Qm
  generalize hAe : va_A ([(a0, .inr (0, [.null, .int 0]))]) s.heap.size = A at hD ⊢
  have hA : ∀ q : Nat, s.heap.size ≤ q → A q := fun q h => by rw [← hAe]; exact Or.inr h
  have hS : va_S A s.heap s.heap [] := va_S.rf
  have hl := lv_entry ([.ref a0]) (n := 2) (Nat.le_of_ble_eq_true rfl)
  rw [lg_entry_eq]
  generalize (lg_sl ([.ref a0]) ++ List.replicate (2 - (lg_sl ([.ref a0])).length) Slot.unset).toArray = ls at hl ⊢
  have hl : lv_has ls 2 [(0, .ref a0)] := hl
  refine lv_aload_n hx hb dX0_init_0 rfl (lv_at hl 0 rfl) ?_
  refine W.objInit hx hb hown (hts (.methodLink RX0 1 objectInit) (List.mem_of_getElem? (i := 1) rfl)) (hts (.instanceMethod objectInit) (List.mem_of_getElem? (i := 2) rfl)) (hts (.code objectInit ⟨#[0xb1]⟩ 1 none) (List.mem_of_getElem? (i := 3) rfl)) rfl (by rw [hml]; exact hl.1) rfl dX0_init_1 (Nat.le_of_ble_eq_true rfl) (Nat.le_of_ble_eq_true rfl) ?_
  refine W.eq (g2 := F0 m 4 ls []) rfl ?_
  refine lv_aload_n hx hb dX0_init_4 rfl (lv_at hl 0 rfl) ?_
  refine lv_bipush (v := nI 7) hx hb dX0_init_5 (by decide) ?_
  refine va_newq (n := nI 7) (N' := 7) hx hb hown (hts (.classLink RX0 9 RX2) (List.mem_of_getElem? (i := 4) rfl)) hO hK hP hD hS hA (by decide) rfl (Nat.le_of_ble_eq_true rfl) (Nat.le_of_ble_eq_true rfl) (Nat.le_of_ble_eq_true rfl) dX0_init_7 (fun a1 cA2 H hK3 hP hD hS => ?_)
  obtain rfl := pm_same3 hK hK3
  have hP : va_P D vwCl ([(a0, .inr (0, [.null, .int 0])), (a1, .inl (y 3, 7, .inr (.inr (.inr (.inr (fun _ => none))))))]) H := hP
  have hD : va_D A ([(a0, .inr (0, [.null, .int 0])), (a1, .inl (y 3, 7, .inr (.inr (.inr (.inr (fun _ => none))))))]) := hD
  refine va_putF (D := D) (ci := 0) (v := .ref a1) (ty := tyX0 0) (C := RX0) (T := TX0) (N := 2) hx hb hts hin0 tyX0 tyX0_ok nmX0 hown hK hP hD hS 0 rfl rfl 0 (by decide) (hts (.fieldLink RX0 11 "ProofMarks$History" "states" "[LProofMarks$Sheet;") (List.mem_of_getElem? (i := 5) rfl)) (fun _ h9 => h9) rfl hin rfl (by decide +kernel) rfl rfl (Nat.le_of_ble_eq_true rfl) dX0_init_10 (fun H locs hP hD hS => ?_)
  have hP : va_P D vwCl ([(a0, .inr (0, [.ref a1, .int 0])), (a1, .inl (y 3, 7, .inr (.inr (.inr (.inr (fun _ => none))))))]) H := hP
  have hD : va_D A ([(a0, .inr (0, [.ref a1, .int 0])), (a1, .inl (y 3, 7, .inr (.inr (.inr (.inr (fun _ => none))))))]) := hD
  refine lv_aload_n hx hb dX0_init_13 rfl (lv_at hl 0 rfl) ?_
  refine lv_iconst (v := nI 0) hx hb dX0_init_14 (by decide) ?_
  refine kx_put (D := D) (ci := 0) (v := .int (nI 0)) (ty := .int) (ws' := [(a0, .inr (0, [.ref a1, .int (nI 0)])), (a1, .inl (y 3, 7, .inr (.inr (.inr (.inr (fun _ => none))))))]) (C := RX0) (T := TX0) (N := 2) hx hb hts hin0 tyX0 tyX0_ok nmX0 hown hK hP hD hS 0 rfl rfl 1 (by decide) (hts (.fieldLink RX0 15 "ProofMarks$History" "kept" "I") (List.mem_of_getElem? (i := 6) rfl)) (fun _ h9 => h9) rfl (by decide +kernel) rfl rfl (Nat.le_of_ble_eq_true rfl) rfl dX0_init_15 (fun H locs hP hD hS => ?_)
  refine lv_iconst (v := nI 0) hx hb dX0_init_18 (by decide) ?_
  refine lv_istore_n (lv' := [(1, .int (nI 0)), (0, .ref a0)]) hx hb dX0_init_19 rfl hl (by decide) rfl (fun ls hl => ?_)
  have LOOP20 : ∀ (n i : Nat) (ls : Array Slot) (H : Heap) (locs : List Loc) (b : Nat → Nat → Nat), va_P D vwCl (pm_hmk y a0 a1 b i) H → va_D A (pm_hmk y a0 a1 b i) → va_S A s.heap H locs → i ≤ 7 → 7 - i < n → lv_has ls 2 [(0, .ref a0), (1, .int (nI i))] → W p l e (headSpec wsX0_init ({ frames := 2, cells := 92, slots := 1512, locals := 33 } : Room)).room s m ([.ref a0] : List Value).toArray below meth c H locs (1 + 13 * i) (7 + 215 * i) (MQ below (va_Qv (fun (u : (Nat → Nat) × (Nat → Nat → Nat)) => u.1 0 = a0) (fun (u : (Nat → Nat) × (Nat → Nat → Nat)) t => va_P D vwCl (pm_hi y u.1 u.2 (fun _ => pm_S0) (pm_rf u.2 (fun j => j)) 0) t.heap ∧ va_D A (pm_hi y u.1 u.2 (fun _ => pm_S0) (pm_rf u.2 (fun j => j)) 0)) A) ([.ref a0] : List Value).toArray s 92 1512 A) (F0 m 20 ls []) := by
    intro n
    induction n with
    | zero => intro i _ _ _ _ _ _ _ hi hn; omega
    | succ n ih4 =>
      intro i ls H locs b hP hD hS hi_i hn_i hl 
      refine lv_iload_n hx hb dX0_init_20 rfl (lv_at hl 1 rfl) ?_
      refine lv_bipush (v := nI 6) hx hb dX0_init_21 (by decide) ?_
      refine kx_icmp_gt (tgt := 45) hx hb (by omega) (by decide) dX0_init_23 (by decide) (fun c5 => ?_) (fun c5 => ?_)
      · skip
        have e6 : i = 7 := by omega
        subst e6
        have hP9 : va_P D vwCl (pm_hi y (fun k => [a0, a1].getD k 0) b (fun _ => pm_S0) (pm_rf b (fun j => j)) 0) H := pm_hmk_7 y _ _ b hP
        have hD9 : va_D A (pm_hi y (fun k => [a0, a1].getD k 0) b (fun _ => pm_S0) (pm_rf b (fun j => j)) 0) := pm_D_same (w := pm_hmk y a0 a1 b 7) rfl hD
        exact W.vret hx hb hr (fun t ht _ => ⟨⟨((fun k => [a0, a1].getD k 0), b), rfl, rfl, by rw [ht]; exact hP9, hD9⟩, hS.F ht⟩) hS.2.2 dX0_init_45
      · skip
        refine lv_aload_n hx hb dX0_init_26 rfl (lv_at hl 0 rfl) ?_
        refine va_get (D := D) (ci := 0) (v := .ref a1) (C := RX0) (T := TX0) (N := 2) hx hb hts hin0 hown hK hP 0 rfl rfl 0 (by decide) (hts (.fieldLink RX0 11 "ProofMarks$History" "states" "[LProofMarks$Sheet;") (List.mem_of_getElem? (i := 5) rfl)) (fun _ h9 => h9) rfl dX0_init_27 ?_
        refine lv_iload_n hx hb dX0_init_30 rfl (lv_at hl 1 rfl) ?_
        refine va_new (ci := 2) (fs := [.null, .null, .null, .null, .null, .null, .null, .null, .null, .null, .null, .null, .int 0, .int 0, .int 0]) (C := RX2) (T := TX2) (N := 15) hx hb hts hin2 tyX2 tyX2_ok hown (hts (.classLink RX0 9 RX2) (List.mem_of_getElem? (i := 4) rfl)) (hts (.instantiable RX2 15) (List.mem_of_getElem? (i := 7) rfl)) (hts (.initialized RX2) (List.mem_of_getElem? (i := 8) rfl)) hK hP hD hS hA rfl pm_born2 (show 1 + 13 * i + 1 ≤ 92 by omega) (show 7 + 215 * i + 15 ≤ 1512 by omega) dX0_init_31 (fun n7 H hP hD hS => ?_)
        refine lv_dup hx hb dX0_init_34 rfl ?_
        have hL := pm_last hP hD
        have hF := pm_hF hD hA hS.1
        refine va_callv (va_runI (As := []) (rest := [.ref n7, .int (nI i), .ref a1]) ⟨hx, hb, hml, hown, hts⟩ (k_X2_init l D y n7 H.size) (cwI 0 hts gX0_init_X2_init rfl rfl rfl (hts (.initialized RX2) (List.mem_of_getElem? (i := 8) rfl)) (hts (.methodLink RX0 19 yX2_init) (List.mem_of_getElem? (i := 9) rfl)) (hts (.instanceMethod yX2_init) (List.mem_of_getElem? (i := 10) rfl)) rfl hd_X2_init ⟨Nat.le_of_ble_eq_true rfl, Nat.le_of_ble_eq_true rfl⟩) ⟨pm_mkr_blind, pm_mkr_pre hL.1 hK hL.2⟩ rfl rfl hl.1 rfl (lv_room (Nat.le_of_ble_eq_true rfl)) dX0_init_35 ⟨show 1 + 13 * i + 1 + 12 ≤ 92 by omega, show 7 + 215 * i + 15 + 200 ≤ 1512 by omega⟩) hS (fun q _ h => hF q h) hF (fun u9 t9 H1 locs ht9 _ h9 hB9 hz9 hk9 hS => ?_)
        obtain ⟨hP8, hD8⟩ := pm_joinN hP hD hk9 hF (by rw [← ht9]; exact hB9.1) hB9.2
        clear hP hD hL hF hB9
        obtain rfl : n7 = u9 0 := h9.symm
        have hP := hP8
        have hD := hD8
        refine kx_astq (ws' := ([(a0, .inr (0, [.ref a1, .int (nI 0)])), (a1, .inl (y 3, 7, .inr (.inr (.inr (.inr (pm_fi (pm_bu b i u9) (i + 1)))))))] ++ pm_shs y b (fun _ => pm_S0) i) ++ pm_shS y u9 pm_S0) hx hb hK hP hD hS 1 3 rfl rfl (pm_app_sh _ y u9 pm_S0) (by omega) (by decide) (pm_bu_s b i u9) rfl dX0_init_38 (fun H locs hP hD hS => ?_)
        have eW := pm_shs_b y b (fun _ => pm_S0) i u9
        have hP : va_P D vwCl (pm_hmk y a0 a1 (pm_bu b i u9) (i + 1)) H := by unfold pm_hmk; rw [← eW]; exact hP
        have hD : va_D A (pm_hmk y a0 a1 (pm_bu b i u9) (i + 1)) := by unfold pm_hmk; rw [← eW]; exact hD
        refine W.widen (k := 1 + 13 * (i + 1)) (n := 7 + 215 * (i + 1)) (by omega) (by omega) ?_
        refine kx_iinc (a := i) (lv' := [(1, .int (nI (i + 1))), (0, .ref a0)]) hx hb dX0_init_39 hl (k := 1) rfl (by decide) rfl (fun ls hl => ?_)
        refine lv_goto (tgt := 20) hx hb dX0_init_42 (by decide) ?_
        exact ih4 (i + 1) ls H locs (pm_bu b i u9) hP hD hS (by omega) (by omega) (by exact lv_sub hl [1, 0] rfl) 
  exact LOOP20 (7 + 1) 0 ls H locs (fun _ _ => 0) (by unfold pm_hmk; rw [pm_fi_0]; exact hP) (by unfold pm_hmk; rw [pm_fi_0]; exact hD) hS (by omega) (by omega) (lv_sub hl [1, 0] rfl) 

