def pq_wx (tl tm : Nat) (D : va_G) (tys : List (ClassId × FieldType)) (av : List Value) (w : va_W) : Array Value → State → Prop := va_Pc av (fun U => ((va_P D vwCl w U.heap ∧ va_K D vwCl tys U ∧ va_D (fun _ => True) w) ∧ pm_NW U) ∧ pm_ST (pm_ad w) tl tm U)
theorem pq_wx_blind {tl tm : Nat} {D : va_G} {tys : List (ClassId × FieldType)} {av : List Value} {w : va_W} : FrameBlind (pq_wx tl tm D tys av w) := fun _ U g mk q => ⟨q.1, ⟨⟨q.2.1.1.1, va_K.moved (u := U) (U := U.calling g mk _) (Vm.Alike.refl U.vm) q.2.1.1.2.1, q.2.1.1.2.2⟩, pm_NW.same (s := U) (U := U.calling g mk _) rfl q.2.1.2⟩, pm_ST.moved (u := U) (U := U.calling g mk _) (Vm.Alike.refl U.vm) rfl q.2.2⟩
theorem pq_wx_pre {tl tm : Nat} {D : va_G} {tys : List (ClassId × FieldType)} {av : List Value} {w : va_W} {s : State} {H : Heap} {locs : List Loc} {A B : Nat → Prop} (hP : va_P D vwCl w H) (hK : va_K D vwCl tys s) (hD : va_D A w) (hA : ∀ q, A q → B q) (hS : va_S B s.heap H locs) (hT : pm_ST B tl tm s) (hN : pm_NW s) : ∀ U : State, U.heap = H → s.WarmedH U.vm → pq_wx tl tm D tys av w av.toArray U := fun U hU hW => by
  obtain ⟨a, b, d⟩ := pm_wrs_pre (H0 := H) (tys := tys) (av := av) hP hK hD hA hS hT U hU hW
  exact ⟨a, ⟨b, hN.warm hW⟩, d⟩
theorem pq_fst {y : Nat → ClassId} {L : Nat → Nat → Nat} {S S' : Nat → Nat → Nat} {Bs Bs' : Nat → Nat → Nat → Nat} {pi pi' : Nat → Nat} {kn kn' : Nat} {Gs Gs' : Nat → Nat → Nat → Nat} {sv sv' : Nat → Nat} {U U' : pm_PT} {dd : Nat} {a b : va_E} : ((dd, a) :: pm_cl y L S Bs pi kn Gs sv U).map Prod.fst = ((dd, b) :: pm_cl y L S' Bs' pi' kn' Gs' sv' U').map Prod.fst := congrArg (List.cons dd) (pm_cl_fst ..)
theorem pq_buyE {S : Nat → Nat → Nat} {b v : Nat} (h1 : 1 ≤ b) (h2 : b < 100) (hv : v = if 999 < S 10 1 + b then 999 else S 10 1 + b) : ∃ T, pm_aBuy S (nI b) = (nI v, T) ∧ T 10 1 = v := by
  subst hv
  refine ⟨_, ?_, pm_st_s S 10 1 _⟩
  simp only [pm_aBuy, pm_ix_in h2 (show (100 : Nat) < 2 ^ 31 by decide)]
  rw [if_neg (by omega)]
theorem pq_reoE {S : Nat → Nat → Nat} {f : Nat} (hf : f < 30) (h : ¬ (S 0 f = 0 ∨ S 0 f = 3)) {a : Nat} (ha : S 0 f = a) : ∃ T, pm_aReopen S (nI f) = (nI a, T) ∧ T 0 f = 0 ∧ T 1 f = 0 := by
  subst ha
  refine ⟨pm_st (pm_st (pm_st S 0 f 0) 1 f 0) 2 f 0, ?_, ?_, ?_⟩
  · simp only [pm_aReopen, pm_ix_in hf (show (30 : Nat) < 2 ^ 31 by decide)]
    rw [if_neg h]
  · simp [pm_st, updN]
  · simp [pm_st, updN]
theorem pq_reoN {S : Nat → Nat → Nat} {f : Nat} (hf : f < 30) (h : S 0 f = 0 ∨ S 0 f = 3) : pm_aReopen S (nI f) = (-5, S) := by
  simp only [pm_aReopen, pm_ix_in hf (show (30 : Nat) < 2 ^ 31 by decide)]
  rw [if_pos h]
theorem pq_setE {S : Nat → Nat → Nat} {i v : Nat} (hi : i < 4) (h1 : (if i = 1 then 0 else 1) ≤ v) (h2 : v ≤ (if i = 0 then 3 else if i = 3 then 5 else 9)) : ∃ T, pm_aSet S (nI i) (nI v) = (nI (S 9 i), T) ∧ T 9 i = v := by
  have hv : v < 10 := by
    (repeat' split at h2) <;> omega
  refine ⟨_, ?_, pm_st_s S 9 i v⟩
  simp only [pm_aSet, pm_ix_in hi (show (4 : Nat) < 2 ^ 31 by decide), pm_ix_in hv (show (10 : Nat) < 2 ^ 31 by decide)]
  rw [if_pos ⟨h1, h2⟩]
theorem pq_mrk5 {S : Nat → Nat → Nat} {x f c : Nat} (hx : x < 3) (hf : f < 30) (hc : c < 3) (h0 : ¬ S 0 f = 0) : pm_aMark S (nI x) (nI f) (nI c) = (-5, S) := by
  simp only [pm_aMark, pm_ix_in hx (show (3 : Nat) < 2 ^ 31 by decide), pm_ix_in hf (show (30 : Nat) < 2 ^ 31 by decide), pm_ix_in hc (show (3 : Nat) < 2 ^ 31 by decide)]
  rw [if_pos h0]
theorem pq_smk {m i v : Nat} (h : pm_okb m = true) (hi : i < 3) (hv : v < 3) : pm_mk (pm_sm m i v) i = v := (pm_T2 m (pm_okb64 h) h i hi v hv).2.2.2

set_option maxHeartbeats 4000000 in
set_option maxRecDepth 100000 in
theorem k_L_does (l : Launch) (D : va_G) (y : Nat → ClassId) (L : Nat → Nat → Nat) (S : Nat → Nat → Nat) (Bs : Nat → Nat → Nat → Nat) (pi : Nat → Nat) (kn : Nat) (Gs : Nat → Nat → Nat → Nat) (sv : Nat → Nat) (U : pm_PT) (dd : Nat) (F : Nat → Int32) (tl tm : Nat) (xv xw : Int32) (hI : pq_I S) (hC : pq_C pi kn) : Met l yL_does wsL_does ({ frames := 7, cells := 0, slots := 0, locals := 160 } : Room) (pq_wx tl tm D (pm_ty y) [.ref (L 0 0), .ref dd, .int xv, .int xw] ((dd, .inl ((y 0), 36, .inl F)) :: pm_cl y L S Bs pi kn Gs sv U)) (pm_Qi D (fun (r : Int32) (u : pq_T × (Nat → Int32)) => r = nI 1 ∧ pq_I u.1.1 ∧ pq_C u.1.2.2.1 u.1.2.2.2) (fun (u : pq_T × (Nat → Int32)) => (dd, .inl (y 0, 36, .inl u.2)) :: pm_cl y L u.1.1 u.1.2.1 u.1.2.2.1 u.1.2.2.2 Gs sv U) ((dd, .inl ((y 0), 36, .inl F)) :: pm_cl y L S Bs pi kn Gs sv U)) 0 0 (pm_ad ((dd, .inl ((y 0), 36, .inl F)) :: pm_cl y L S Bs pi kn Gs sv U)) := by
  refine Met.ofW (cc := cL_does) (maxL := 16) (ret := (some .boolean)) (by decide) rfl ?_
  intro p e s m args below meth c s₁ B hml hpre
  obtain ⟨rfl, ⟨⟨hP, hK, hD0⟩, hN⟩, hT⟩ := hpre
  have hx := B.exec
  have hb := B.bytes
  have hr := B.returns
  have hts := atoms_spec (ws := wsL_does) B.pre
  have hown : s.vm.findClass RL = some m.cls := findClass_of_methodNamed B.named
  have hlocks := B.notSynchronized
  have hin3 : ∀ w ∈ u_ws RX3 TX3 5, w ∈ wsL_does := fun w h => List.mem_cons_of_mem _ (List.mem_append_left _ (List.mem_append_left _ (List.mem_append_left _ (List.mem_append_right _ h))))
  have hin1 : ∀ w ∈ u_ws RX1 TX1 8, w ∈ wsL_does := fun w h => List.mem_cons_of_mem _ (List.mem_append_left _ (List.mem_append_left _ (List.mem_append_right _ h)))
  have hin0 : ∀ w ∈ u_ws RX0 TX0 2, w ∈ wsL_does := fun w h => List.mem_cons_of_mem _ (List.mem_append_left _ (List.mem_append_right _ h))
  have hin2 : ∀ w ∈ u_ws RX2 TX2 15, w ∈ wsL_does := fun w h => List.mem_cons_of_mem _ (List.mem_append_right _ h)
  have hD := pm_ad_self hD0
  have hS : va_S (pm_ad ((dd, .inl ((y 0), 36, .inl F)) :: pm_cl y L S Bs pi kn Gs sv U)) s.heap s.heap [] := va_S.rf
  have hP : va_P D vwCl ((dd, .inl ((y 0), 36, .inl F)) :: pm_cl y L S Bs pi kn Gs sv U) s.heap := hP
  have hl := lv_entry ([.ref (L 0 0), .ref dd, .int xv, .int xw]) (n := 16) (Nat.le_of_ble_eq_true rfl)
  rw [lg_entry_eq]
  generalize (lg_sl ([.ref (L 0 0), .ref dd, .int xv, .int xw]) ++ List.replicate (16 - (lg_sl ([.ref (L 0 0), .ref dd, .int xv, .int xw])).length) Slot.unset).toArray = ls at hl ⊢
  have hl : lv_has ls 16 [(0, .ref (L 0 0)), (1, .ref dd), (2, .int xv), (3, .int xw)] := hl
  have REST : ∀ (t : Nat) (ls : Array Slot), t < 30 → lv_has ls 16 [(0, .ref (L 0 0)), (1, .ref dd), (2, .int xv), (3, .int xw)] → W p l e (headSpec wsL_does ({ frames := 7, cells := 0, slots := 0, locals := 160 } : Room)).room s m ([.ref (L 0 0), .ref dd, .int xv, .int xw] : List Value).toArray below meth c s.heap [] 0 0 (MQ below (pm_Qi D (fun (r : Int32) (u : pq_T × (Nat → Int32)) => r = nI 1 ∧ pq_I u.1.1 ∧ pq_C u.1.2.2.1 u.1.2.2.2) (fun (u : pq_T × (Nat → Int32)) => (dd, .inl (y 0, 36, .inl u.2)) :: pm_cl y L u.1.1 u.1.2.1 u.1.2.2.1 u.1.2.2.2 Gs sv U) ((dd, .inl ((y 0), 36, .inl F)) :: pm_cl y L S Bs pi kn Gs sv U)) ([.ref (L 0 0), .ref dd, .int xv, .int xw] : List Value).toArray s 0 0 (pm_ad ((dd, .inl ((y 0), 36, .inl F)) :: pm_cl y L S Bs pi kn Gs sv U))) (F0 m 21 ls [.int (nI t)]) := by
    intro t ls ht hl
    refine lv_istore (lv' := [(4, .int (nI t)), (0, .ref (L 0 0)), (1, .ref dd), (2, .int xv), (3, .int xw)]) hx hb dL_does_21 hl (by decide) rfl (fun ls hl => ?_)
    refine lv_iload_n hx hb dL_does_23 rfl (lv_at hl 4 rfl) ?_
    refine lv_iconst (v := nI 3) hx hb dL_does_24 (by decide) ?_
    refine vp_callSi (W.runS (As := [.int xw, .int (nI 3)]) (rest := []) ⟨hx, hb, hml, hown, hts⟩ (k_L_low l xw 3 (by decide) (by decide)) (va_cwS 2 hts gL_does_L_low rfl rfl rfl hd_L_low ⟨Nat.le_of_ble_eq_true rfl, Nat.le_of_ble_eq_true rfl⟩) ⟨pm_no_blind, pm_no_pre⟩ rfl rfl hl.1 rfl (lv_room (Nat.le_of_ble_eq_true rfl)) dL_does_25 ⟨Nat.le_of_ble_eq_true rfl, Nat.le_of_ble_eq_true rfl⟩) (fun r1 h2 => ?_)
    obtain ⟨t3, ht4, rfl⟩ := h2
    refine lv_istore (lv' := [(5, .int (nI t3)), (4, .int (nI t)), (0, .ref (L 0 0)), (1, .ref dd), (2, .int xv), (3, .int xw)]) hx hb dL_does_28 hl (by decide) rfl (fun ls hl => ?_)
    refine lv_iload_n hx hb dL_does_30 rfl (lv_at hl 4 rfl) ?_
    refine lv_bipush (v := nI 20) hx hb dL_does_31 (by decide) ?_
    refine vp_callSi (W.runS (As := [.int xv, .int (nI 20)]) (rest := []) ⟨hx, hb, hml, hown, hts⟩ (k_L_low l xv 20 (by decide) (by decide)) (va_cwS 2 hts gL_does_L_low rfl rfl rfl hd_L_low ⟨Nat.le_of_ble_eq_true rfl, Nat.le_of_ble_eq_true rfl⟩) ⟨pm_no_blind, pm_no_pre⟩ rfl rfl hl.1 rfl (lv_room (Nat.le_of_ble_eq_true rfl)) dL_does_33 ⟨Nat.le_of_ble_eq_true rfl, Nat.le_of_ble_eq_true rfl⟩) (fun r5 h6 => ?_)
    obtain ⟨t7, ht8, rfl⟩ := h6
    rcases (show t7 = 0 ∨ t7 = 1 ∨ t7 = 2 ∨ t7 = 3 ∨ t7 = 4 ∨ t7 = 5 ∨ t7 = 6 ∨ t7 = 7 ∨ t7 = 8 ∨ t7 = 9 ∨ t7 = 10 ∨ 11 ≤ t7 by omega) with rfl | rfl | rfl | rfl | rfl | rfl | rfl | rfl | rfl | rfl | rfl | h11
    · skip
      refine lv_tableIn (off := 60) (tgt := 96) hx hb dL_does_36 (by decide) (by decide) (by decide) (by decide) ?_
      refine lv_aload_n hx hb dL_does_96 rfl (lv_at hl 2 rfl) ?_
      refine lv_iload hx hb dL_does_97 (lv_at hl 0 rfl) ?_
      refine lv_iload_n hx hb dL_does_99 rfl (lv_at hl 5 rfl) ?_
      refine lv_iconst (v := nI 2) hx hb dL_does_100 (by decide) ?_
      refine lv_ishr hx hb dL_does_101 ?_
      refine lv_iconst (v := nI 3) hx hb dL_does_102 (by decide) ?_
      refine vp_callSi (W.runS (As := [.int (xw >>> ((nI 2) &&& 31)), .int (nI 3)]) (rest := [.int (nI t3), .ref (L 0 0)]) ⟨hx, hb, hml, hown, hts⟩ (k_L_low l (xw >>> ((nI 2) &&& 31)) 3 (by decide) (by decide)) (va_cwS 2 hts gL_does_L_low rfl rfl rfl hd_L_low ⟨Nat.le_of_ble_eq_true rfl, Nat.le_of_ble_eq_true rfl⟩) ⟨pm_no_blind, pm_no_pre⟩ rfl rfl hl.1 rfl (lv_room (Nat.le_of_ble_eq_true rfl)) dL_does_103 ⟨Nat.le_of_ble_eq_true rfl, Nat.le_of_ble_eq_true rfl⟩) (fun r9 h10 => ?_)
      obtain ⟨t11, ht12, rfl⟩ := h10
      refine lv_iload hx hb dL_does_106 (lv_at hl 1 rfl) ?_
      have hPc : va_P D vwCl (pm_cl y L S Bs pi kn Gs sv U) s.heap := pq_cut hP
      have hDc := pq_cutD hD
      refine va_calli (va_runS (As := [.ref (L 0 0), .int (nI t3), .int (nI t11), .int (nI t)]) (rest := []) ⟨hx, hb, hml, hown, hts⟩ (k_L_isArgued l D y L S Bs pi kn Gs sv U t3 t11 t hI hC (by omega) (by omega) (by omega)) (va_cwS 4 hts gL_does_L_isArgued rfl rfl rfl hd_L_isArgued ⟨Nat.le_of_ble_eq_true rfl, Nat.le_of_ble_eq_true rfl⟩) ⟨pm_wrn_blind, pm_wrn_pre hPc hK hDc hN⟩ rfl rfl hl.1 rfl (lv_room (Nat.le_of_ble_eq_true rfl)) dL_does_108 ⟨Nat.le_of_ble_eq_true rfl, Nat.le_of_ble_eq_true rfl⟩) hS (fun q _ h9 => pm_ad_all hDc q h9) (pm_ad_all hDc) (fun r13 u18 t14 H1 locs ht15 _ h19 hB16 _ hk17 hS => ?_)
      obtain ⟨rfl, hI20, hC21⟩ := h19
      obtain ⟨hP, hD⟩ := pq_mid (w' := pm_cl y L u18.1 u18.2.1 u18.2.2.1 u18.2.2.2 Gs sv U) hP hD hk17 (by rw [← ht15]; exact hB16) (pm_cl_fst ..)
      generalize H1 = H at hP hS ⊢
      have hP : va_P D vwCl ((dd, .inl ((y 0), 36, .inl F)) :: pm_cl y L u18.1 u18.2.1 u18.2.2.1 u18.2.2.2 Gs sv U) H := hP
      have hD : va_D (pm_ad ((dd, .inl ((y 0), 36, .inl F)) :: pm_cl y L S Bs pi kn Gs sv U)) ((dd, .inl ((y 0), 36, .inl F)) :: pm_cl y L u18.1 u18.2.1 u18.2.2.1 u18.2.2.2 Gs sv U) := hD
      exact W.zret (ty := .boolean) hx hb hr rfl (fun t ht _ => ⟨⟨_, ((u18.1, u18.2.1, u18.2.2.1, u18.2.2.2), F), rfl, ⟨rfl, hI20, hC21⟩, (by show va_P D vwCl ((dd, .inl ((y 0), 36, .inl F)) :: pm_cl y L u18.1 u18.2.1 u18.2.2.1 u18.2.2.2 Gs sv U) t.heap; rw [ht]; exact hP)⟩, hS.F ht⟩) hS.2.2 dL_does_111
    · skip
      refine lv_tableIn (off := 60) (tgt := 96) hx hb dL_does_36 (by decide) (by decide) (by decide) (by decide) ?_
      refine lv_aload_n hx hb dL_does_96 rfl (lv_at hl 2 rfl) ?_
      refine lv_iload hx hb dL_does_97 (lv_at hl 0 rfl) ?_
      refine lv_iload_n hx hb dL_does_99 rfl (lv_at hl 5 rfl) ?_
      refine lv_iconst (v := nI 2) hx hb dL_does_100 (by decide) ?_
      refine lv_ishr hx hb dL_does_101 ?_
      refine lv_iconst (v := nI 3) hx hb dL_does_102 (by decide) ?_
      refine vp_callSi (W.runS (As := [.int (xw >>> ((nI 2) &&& 31)), .int (nI 3)]) (rest := [.int (nI t3), .ref (L 0 0)]) ⟨hx, hb, hml, hown, hts⟩ (k_L_low l (xw >>> ((nI 2) &&& 31)) 3 (by decide) (by decide)) (va_cwS 2 hts gL_does_L_low rfl rfl rfl hd_L_low ⟨Nat.le_of_ble_eq_true rfl, Nat.le_of_ble_eq_true rfl⟩) ⟨pm_no_blind, pm_no_pre⟩ rfl rfl hl.1 rfl (lv_room (Nat.le_of_ble_eq_true rfl)) dL_does_103 ⟨Nat.le_of_ble_eq_true rfl, Nat.le_of_ble_eq_true rfl⟩) (fun r22 h23 => ?_)
      obtain ⟨t24, ht25, rfl⟩ := h23
      refine lv_iload hx hb dL_does_106 (lv_at hl 1 rfl) ?_
      have hPc : va_P D vwCl (pm_cl y L S Bs pi kn Gs sv U) s.heap := pq_cut hP
      have hDc := pq_cutD hD
      refine va_calli (va_runS (As := [.ref (L 0 0), .int (nI t3), .int (nI t24), .int (nI t)]) (rest := []) ⟨hx, hb, hml, hown, hts⟩ (k_L_isArgued l D y L S Bs pi kn Gs sv U t3 t24 t hI hC (by omega) (by omega) (by omega)) (va_cwS 4 hts gL_does_L_isArgued rfl rfl rfl hd_L_isArgued ⟨Nat.le_of_ble_eq_true rfl, Nat.le_of_ble_eq_true rfl⟩) ⟨pm_wrn_blind, pm_wrn_pre hPc hK hDc hN⟩ rfl rfl hl.1 rfl (lv_room (Nat.le_of_ble_eq_true rfl)) dL_does_108 ⟨Nat.le_of_ble_eq_true rfl, Nat.le_of_ble_eq_true rfl⟩) hS (fun q _ h9 => pm_ad_all hDc q h9) (pm_ad_all hDc) (fun r26 u31 t27 H1 locs ht28 _ h32 hB29 _ hk30 hS => ?_)
      obtain ⟨rfl, hI33, hC34⟩ := h32
      obtain ⟨hP, hD⟩ := pq_mid (w' := pm_cl y L u31.1 u31.2.1 u31.2.2.1 u31.2.2.2 Gs sv U) hP hD hk30 (by rw [← ht28]; exact hB29) (pm_cl_fst ..)
      generalize H1 = H at hP hS ⊢
      have hP : va_P D vwCl ((dd, .inl ((y 0), 36, .inl F)) :: pm_cl y L u31.1 u31.2.1 u31.2.2.1 u31.2.2.2 Gs sv U) H := hP
      have hD : va_D (pm_ad ((dd, .inl ((y 0), 36, .inl F)) :: pm_cl y L S Bs pi kn Gs sv U)) ((dd, .inl ((y 0), 36, .inl F)) :: pm_cl y L u31.1 u31.2.1 u31.2.2.1 u31.2.2.2 Gs sv U) := hD
      exact W.zret (ty := .boolean) hx hb hr rfl (fun t ht _ => ⟨⟨_, ((u31.1, u31.2.1, u31.2.2.1, u31.2.2.2), F), rfl, ⟨rfl, hI33, hC34⟩, (by show va_P D vwCl ((dd, .inl ((y 0), 36, .inl F)) :: pm_cl y L u31.1 u31.2.1 u31.2.2.1 u31.2.2.2 Gs sv U) t.heap; rw [ht]; exact hP)⟩, hS.F ht⟩) hS.2.2 dL_does_111
    · skip
      refine lv_tableIn (off := 76) (tgt := 112) hx hb dL_does_36 (by decide) (by decide) (by decide) (by decide) ?_
      refine lv_aload_n hx hb dL_does_112 rfl (lv_at hl 2 rfl) ?_
      refine lv_aload_n hx hb dL_does_113 rfl (lv_at hl 3 rfl) ?_
      refine va_calli (va_runS (As := [.ref (L 0 0), .ref dd]) (rest := []) ⟨hx, hb, hml, hown, hts⟩ (k_L_isRound l D y L S Bs pi kn Gs sv U dd F hI hC) (va_cwS 2 hts gL_does_L_isRound rfl rfl rfl hd_L_isRound ⟨Nat.le_of_ble_eq_true rfl, Nat.le_of_ble_eq_true rfl⟩) ⟨pm_wrn_blind, pm_wrn_pre hP hK hD hN⟩ rfl rfl hl.1 rfl (lv_room (Nat.le_of_ble_eq_true rfl)) dL_does_114 ⟨Nat.le_of_ble_eq_true rfl, Nat.le_of_ble_eq_true rfl⟩) hS (fun q _ h9 => pm_ad_all hD q h9) (pm_ad_all hD) (fun r35 u40 t36 H1 locs ht37 _ h41 hB38 _ hk39 hS => ?_)
      obtain ⟨rfl, hI42, hC43⟩ := h41
      obtain ⟨hP, hD⟩ := pm_all (D := D) (cl := vwCl) (H1 := H1) hD (w' := (dd, .inl ((y 0), 36, .inl u40.2)) :: pm_cl y L u40.1.1 u40.1.2.1 u40.1.2.2.1 u40.1.2.2.2 Gs sv U) (by rw [← ht37]; exact hB38) pq_fst
      generalize H1 = H at hP hS ⊢
      have hP : va_P D vwCl ((dd, .inl ((y 0), 36, .inl u40.2)) :: pm_cl y L u40.1.1 u40.1.2.1 u40.1.2.2.1 u40.1.2.2.2 Gs sv U) H := hP
      have hD : va_D (pm_ad ((dd, .inl ((y 0), 36, .inl F)) :: pm_cl y L S Bs pi kn Gs sv U)) ((dd, .inl ((y 0), 36, .inl u40.2)) :: pm_cl y L u40.1.1 u40.1.2.1 u40.1.2.2.1 u40.1.2.2.2 Gs sv U) := hD
      exact W.zret (ty := .boolean) hx hb hr rfl (fun t ht _ => ⟨⟨_, ((u40.1.1, u40.1.2.1, u40.1.2.2.1, u40.1.2.2.2), u40.2), rfl, ⟨rfl, hI42, hC43⟩, (by show va_P D vwCl ((dd, .inl ((y 0), 36, .inl u40.2)) :: pm_cl y L u40.1.1 u40.1.2.1 u40.1.2.2.1 u40.1.2.2.2 Gs sv U) t.heap; rw [ht]; exact hP)⟩, hS.F ht⟩) hS.2.2 dL_does_117
    · skip
      refine lv_tableIn (off := 76) (tgt := 112) hx hb dL_does_36 (by decide) (by decide) (by decide) (by decide) ?_
      refine lv_aload_n hx hb dL_does_112 rfl (lv_at hl 2 rfl) ?_
      refine lv_aload_n hx hb dL_does_113 rfl (lv_at hl 3 rfl) ?_
      refine va_calli (va_runS (As := [.ref (L 0 0), .ref dd]) (rest := []) ⟨hx, hb, hml, hown, hts⟩ (k_L_isRound l D y L S Bs pi kn Gs sv U dd F hI hC) (va_cwS 2 hts gL_does_L_isRound rfl rfl rfl hd_L_isRound ⟨Nat.le_of_ble_eq_true rfl, Nat.le_of_ble_eq_true rfl⟩) ⟨pm_wrn_blind, pm_wrn_pre hP hK hD hN⟩ rfl rfl hl.1 rfl (lv_room (Nat.le_of_ble_eq_true rfl)) dL_does_114 ⟨Nat.le_of_ble_eq_true rfl, Nat.le_of_ble_eq_true rfl⟩) hS (fun q _ h9 => pm_ad_all hD q h9) (pm_ad_all hD) (fun r44 u49 t45 H1 locs ht46 _ h50 hB47 _ hk48 hS => ?_)
      obtain ⟨rfl, hI51, hC52⟩ := h50
      obtain ⟨hP, hD⟩ := pm_all (D := D) (cl := vwCl) (H1 := H1) hD (w' := (dd, .inl ((y 0), 36, .inl u49.2)) :: pm_cl y L u49.1.1 u49.1.2.1 u49.1.2.2.1 u49.1.2.2.2 Gs sv U) (by rw [← ht46]; exact hB47) pq_fst
      generalize H1 = H at hP hS ⊢
      have hP : va_P D vwCl ((dd, .inl ((y 0), 36, .inl u49.2)) :: pm_cl y L u49.1.1 u49.1.2.1 u49.1.2.2.1 u49.1.2.2.2 Gs sv U) H := hP
      have hD : va_D (pm_ad ((dd, .inl ((y 0), 36, .inl F)) :: pm_cl y L S Bs pi kn Gs sv U)) ((dd, .inl ((y 0), 36, .inl u49.2)) :: pm_cl y L u49.1.1 u49.1.2.1 u49.1.2.2.1 u49.1.2.2.2 Gs sv U) := hD
      exact W.zret (ty := .boolean) hx hb hr rfl (fun t ht _ => ⟨⟨_, ((u49.1.1, u49.1.2.1, u49.1.2.2.1, u49.1.2.2.2), u49.2), rfl, ⟨rfl, hI51, hC52⟩, (by show va_P D vwCl ((dd, .inl ((y 0), 36, .inl u49.2)) :: pm_cl y L u49.1.1 u49.1.2.1 u49.1.2.2.1 u49.1.2.2.2 Gs sv U) t.heap; rw [ht]; exact hP)⟩, hS.F ht⟩) hS.2.2 dL_does_117
    · skip
      refine lv_tableIn (off := 76) (tgt := 112) hx hb dL_does_36 (by decide) (by decide) (by decide) (by decide) ?_
      refine lv_aload_n hx hb dL_does_112 rfl (lv_at hl 2 rfl) ?_
      refine lv_aload_n hx hb dL_does_113 rfl (lv_at hl 3 rfl) ?_
      refine va_calli (va_runS (As := [.ref (L 0 0), .ref dd]) (rest := []) ⟨hx, hb, hml, hown, hts⟩ (k_L_isRound l D y L S Bs pi kn Gs sv U dd F hI hC) (va_cwS 2 hts gL_does_L_isRound rfl rfl rfl hd_L_isRound ⟨Nat.le_of_ble_eq_true rfl, Nat.le_of_ble_eq_true rfl⟩) ⟨pm_wrn_blind, pm_wrn_pre hP hK hD hN⟩ rfl rfl hl.1 rfl (lv_room (Nat.le_of_ble_eq_true rfl)) dL_does_114 ⟨Nat.le_of_ble_eq_true rfl, Nat.le_of_ble_eq_true rfl⟩) hS (fun q _ h9 => pm_ad_all hD q h9) (pm_ad_all hD) (fun r53 u58 t54 H1 locs ht55 _ h59 hB56 _ hk57 hS => ?_)
      obtain ⟨rfl, hI60, hC61⟩ := h59
      obtain ⟨hP, hD⟩ := pm_all (D := D) (cl := vwCl) (H1 := H1) hD (w' := (dd, .inl ((y 0), 36, .inl u58.2)) :: pm_cl y L u58.1.1 u58.1.2.1 u58.1.2.2.1 u58.1.2.2.2 Gs sv U) (by rw [← ht55]; exact hB56) pq_fst
      generalize H1 = H at hP hS ⊢
      have hP : va_P D vwCl ((dd, .inl ((y 0), 36, .inl u58.2)) :: pm_cl y L u58.1.1 u58.1.2.1 u58.1.2.2.1 u58.1.2.2.2 Gs sv U) H := hP
      have hD : va_D (pm_ad ((dd, .inl ((y 0), 36, .inl F)) :: pm_cl y L S Bs pi kn Gs sv U)) ((dd, .inl ((y 0), 36, .inl u58.2)) :: pm_cl y L u58.1.1 u58.1.2.1 u58.1.2.2.1 u58.1.2.2.2 Gs sv U) := hD
      exact W.zret (ty := .boolean) hx hb hr rfl (fun t ht _ => ⟨⟨_, ((u58.1.1, u58.1.2.1, u58.1.2.2.1, u58.1.2.2.2), u58.2), rfl, ⟨rfl, hI60, hC61⟩, (by show va_P D vwCl ((dd, .inl ((y 0), 36, .inl u58.2)) :: pm_cl y L u58.1.1 u58.1.2.1 u58.1.2.2.1 u58.1.2.2.2 Gs sv U) t.heap; rw [ht]; exact hP)⟩, hS.F ht⟩) hS.2.2 dL_does_117
    · skip
      refine lv_tableIn (off := 82) (tgt := 118) hx hb dL_does_36 (by decide) (by decide) (by decide) (by decide) ?_
      refine lv_aload_n hx hb dL_does_118 rfl (lv_at hl 2 rfl) ?_
      refine lv_aload_n hx hb dL_does_119 rfl (lv_at hl 2 rfl) ?_
      refine lv_iconst (v := nI 2) hx hb dL_does_120 (by decide) ?_
      have hPc : va_P D vwCl (pm_cl y L S Bs pi kn Gs sv U) s.heap := pq_cut hP
      refine vp_callSi (W.runV (As := [.int (nI 2)]) (rest := [.ref (L 0 0)]) ⟨hx, hb, hml, hown, hts⟩ (k_X3_count l D y L S Bs pi kn Gs sv U Bs Gs (nI 2) hI.1) (cwV 1 hts gL_does_X3_count rfl rfl rfl hd_X3_count ⟨Nat.le_of_ble_eq_true rfl, Nat.le_of_ble_eq_true rfl⟩) ⟨pm_ron_blind, va_recv hK hPc (ci := 3) (q0 := 0) rfl rfl, pm_ron_pre hPc hK hN⟩ rfl rfl hl.1 rfl (lv_room (Nat.le_of_ble_eq_true rfl)) dL_does_121 ⟨Nat.le_of_ble_eq_true rfl, Nat.le_of_ble_eq_true rfl⟩) (fun r62 h63 => ?_)
      obtain rfl : r62 = nI (pm_hm S 1 30) := h63.trans (pq_co2)
      have := pq_hm_le S 1 30
      refine kx_if_le (tgt := 157) hx hb (by omega) dL_does_124 (by decide) (fun c64 => ?_) (fun c64 => ?_)
      · skip
        refine lv_iload hx hb dL_does_157 (lv_at hl 1 rfl) ?_
        refine lv_iconst (v := nI 1) hx hb dL_does_159 (by decide) ?_
        refine lv_iload_n hx hb dL_does_160 rfl (lv_at hl 5 rfl) ?_
        refine lv_iconst (v := nI 5) hx hb dL_does_161 (by decide) ?_
        refine lv_ishr hx hb dL_does_162 ?_
        refine lv_iconst (v := nI 3) hx hb dL_does_163 (by decide) ?_
        refine vp_callSi (W.runS (As := [.int (xw >>> ((nI 5) &&& 31)), .int (nI 3)]) (rest := [.int (nI 1), .int (nI t), .ref (L 0 0)]) ⟨hx, hb, hml, hown, hts⟩ (k_L_low l (xw >>> ((nI 5) &&& 31)) 3 (by decide) (by decide)) (va_cwS 2 hts gL_does_L_low rfl rfl rfl hd_L_low ⟨Nat.le_of_ble_eq_true rfl, Nat.le_of_ble_eq_true rfl⟩) ⟨pm_no_blind, pm_no_pre⟩ rfl rfl hl.1 rfl (lv_room (Nat.le_of_ble_eq_true rfl)) dL_does_164 ⟨Nat.le_of_ble_eq_true rfl, Nat.le_of_ble_eq_true rfl⟩) (fun r65 h66 => ?_)
        obtain ⟨t67, ht68, rfl⟩ := h66
        refine kx_iadd hx hb dL_does_167 ?_
        have hPc : va_P D vwCl (pm_cl y L S Bs pi kn Gs sv U) s.heap := pq_cut hP
        have hDc := pq_cutD hD
        refine va_calli (va_runS (As := [.ref (L 0 0), .int (nI t), .int (nI (1 + t67))]) (rest := []) ⟨hx, hb, hml, hown, hts⟩ (k_L_isPrinted l D y L S Bs pi kn Gs sv U t (1 + t67) hI hC (by omega) (by omega) (by omega)) (va_cwS 3 hts gL_does_L_isPrinted rfl rfl rfl hd_L_isPrinted ⟨Nat.le_of_ble_eq_true rfl, Nat.le_of_ble_eq_true rfl⟩) ⟨pm_wrn_blind, pm_wrn_pre hPc hK hDc hN⟩ rfl rfl hl.1 rfl (lv_room (Nat.le_of_ble_eq_true rfl)) dL_does_168 ⟨Nat.le_of_ble_eq_true rfl, Nat.le_of_ble_eq_true rfl⟩) hS (fun q _ h9 => pm_ad_all hDc q h9) (pm_ad_all hDc) (fun r69 u74 t70 H1 locs ht71 _ h75 hB72 _ hk73 hS => ?_)
        obtain ⟨rfl, hI76, hC77⟩ := h75
        obtain ⟨hP, hD⟩ := pq_mid (w' := pm_cl y L u74.1 u74.2.1 u74.2.2.1 u74.2.2.2 Gs sv U) hP hD hk73 (by rw [← ht71]; exact hB72) (pm_cl_fst ..)
        generalize H1 = H at hP hS ⊢
        have hP : va_P D vwCl ((dd, .inl ((y 0), 36, .inl F)) :: pm_cl y L u74.1 u74.2.1 u74.2.2.1 u74.2.2.2 Gs sv U) H := hP
        have hD : va_D (pm_ad ((dd, .inl ((y 0), 36, .inl F)) :: pm_cl y L S Bs pi kn Gs sv U)) ((dd, .inl ((y 0), 36, .inl F)) :: pm_cl y L u74.1 u74.2.1 u74.2.2.1 u74.2.2.2 Gs sv U) := hD
        exact W.zret (ty := .boolean) hx hb hr rfl (fun t ht _ => ⟨⟨_, ((u74.1, u74.2.1, u74.2.2.1, u74.2.2.2), F), rfl, ⟨rfl, hI76, hC77⟩, (by show va_P D vwCl ((dd, .inl ((y 0), 36, .inl F)) :: pm_cl y L u74.1 u74.2.1 u74.2.2.1 u74.2.2.2 Gs sv U) t.heap; rw [ht]; exact hP)⟩, hS.F ht⟩) hS.2.2 dL_does_171
      · skip
        refine lv_iload_n hx hb dL_does_127 rfl (lv_at hl 5 rfl) ?_
        refine lv_iconst (v := nI 3) hx hb dL_does_128 (by decide) ?_
        refine lv_iand hx hb dL_does_129 ?_
        refine lv_if_le (tgt := 157) hx hb dL_does_130 (by decide) (fun c78 => ?_) (fun c78 => ?_)
        · skip
          refine lv_iload hx hb dL_does_157 (lv_at hl 1 rfl) ?_
          refine lv_iconst (v := nI 1) hx hb dL_does_159 (by decide) ?_
          refine lv_iload_n hx hb dL_does_160 rfl (lv_at hl 5 rfl) ?_
          refine lv_iconst (v := nI 5) hx hb dL_does_161 (by decide) ?_
          refine lv_ishr hx hb dL_does_162 ?_
          refine lv_iconst (v := nI 3) hx hb dL_does_163 (by decide) ?_
          refine vp_callSi (W.runS (As := [.int (xw >>> ((nI 5) &&& 31)), .int (nI 3)]) (rest := [.int (nI 1), .int (nI t), .ref (L 0 0)]) ⟨hx, hb, hml, hown, hts⟩ (k_L_low l (xw >>> ((nI 5) &&& 31)) 3 (by decide) (by decide)) (va_cwS 2 hts gL_does_L_low rfl rfl rfl hd_L_low ⟨Nat.le_of_ble_eq_true rfl, Nat.le_of_ble_eq_true rfl⟩) ⟨pm_no_blind, pm_no_pre⟩ rfl rfl hl.1 rfl (lv_room (Nat.le_of_ble_eq_true rfl)) dL_does_164 ⟨Nat.le_of_ble_eq_true rfl, Nat.le_of_ble_eq_true rfl⟩) (fun r79 h80 => ?_)
          obtain ⟨t81, ht82, rfl⟩ := h80
          refine kx_iadd hx hb dL_does_167 ?_
          have hPc : va_P D vwCl (pm_cl y L S Bs pi kn Gs sv U) s.heap := pq_cut hP
          have hDc := pq_cutD hD
          refine va_calli (va_runS (As := [.ref (L 0 0), .int (nI t), .int (nI (1 + t81))]) (rest := []) ⟨hx, hb, hml, hown, hts⟩ (k_L_isPrinted l D y L S Bs pi kn Gs sv U t (1 + t81) hI hC (by omega) (by omega) (by omega)) (va_cwS 3 hts gL_does_L_isPrinted rfl rfl rfl hd_L_isPrinted ⟨Nat.le_of_ble_eq_true rfl, Nat.le_of_ble_eq_true rfl⟩) ⟨pm_wrn_blind, pm_wrn_pre hPc hK hDc hN⟩ rfl rfl hl.1 rfl (lv_room (Nat.le_of_ble_eq_true rfl)) dL_does_168 ⟨Nat.le_of_ble_eq_true rfl, Nat.le_of_ble_eq_true rfl⟩) hS (fun q _ h9 => pm_ad_all hDc q h9) (pm_ad_all hDc) (fun r83 u88 t84 H1 locs ht85 _ h89 hB86 _ hk87 hS => ?_)
          obtain ⟨rfl, hI90, hC91⟩ := h89
          obtain ⟨hP, hD⟩ := pq_mid (w' := pm_cl y L u88.1 u88.2.1 u88.2.2.1 u88.2.2.2 Gs sv U) hP hD hk87 (by rw [← ht85]; exact hB86) (pm_cl_fst ..)
          generalize H1 = H at hP hS ⊢
          have hP : va_P D vwCl ((dd, .inl ((y 0), 36, .inl F)) :: pm_cl y L u88.1 u88.2.1 u88.2.2.1 u88.2.2.2 Gs sv U) H := hP
          have hD : va_D (pm_ad ((dd, .inl ((y 0), 36, .inl F)) :: pm_cl y L S Bs pi kn Gs sv U)) ((dd, .inl ((y 0), 36, .inl F)) :: pm_cl y L u88.1 u88.2.1 u88.2.2.1 u88.2.2.2 Gs sv U) := hD
          exact W.zret (ty := .boolean) hx hb hr rfl (fun t ht _ => ⟨⟨_, ((u88.1, u88.2.1, u88.2.2.1, u88.2.2.2), F), rfl, ⟨rfl, hI90, hC91⟩, (by show va_P D vwCl ((dd, .inl ((y 0), 36, .inl F)) :: pm_cl y L u88.1 u88.2.1 u88.2.2.1 u88.2.2.2 Gs sv U) t.heap; rw [ht]; exact hP)⟩, hS.F ht⟩) hS.2.2 dL_does_171
        · skip
          refine lv_aload_n hx hb dL_does_133 rfl (lv_at hl 2 rfl) ?_
          refine lv_iload_n hx hb dL_does_134 rfl (lv_at hl 5 rfl) ?_
          refine lv_iconst (v := nI 2) hx hb dL_does_135 (by decide) ?_
          refine lv_ishr hx hb dL_does_136 ?_
          refine lv_aload_n hx hb dL_does_137 rfl (lv_at hl 2 rfl) ?_
          refine lv_iconst (v := nI 2) hx hb dL_does_138 (by decide) ?_
          have hPc : va_P D vwCl (pm_cl y L S Bs pi kn Gs sv U) s.heap := pq_cut hP
          refine vp_callSi (W.runV (As := [.int (nI 2)]) (rest := [.int (xw >>> ((nI 2) &&& 31)), .ref (L 0 0), .ref (L 0 0)]) ⟨hx, hb, hml, hown, hts⟩ (k_X3_count l D y L S Bs pi kn Gs sv U Bs Gs (nI 2) hI.1) (cwV 1 hts gL_does_X3_count rfl rfl rfl hd_X3_count ⟨Nat.le_of_ble_eq_true rfl, Nat.le_of_ble_eq_true rfl⟩) ⟨pm_ron_blind, va_recv hK hPc (ci := 3) (q0 := 0) rfl rfl, pm_ron_pre hPc hK hN⟩ rfl rfl hl.1 rfl (lv_room (Nat.le_of_ble_eq_true rfl)) dL_does_139 ⟨Nat.le_of_ble_eq_true rfl, Nat.le_of_ble_eq_true rfl⟩) (fun r92 h93 => ?_)
          obtain rfl : r92 = nI (pm_hm S 1 30) := h93.trans (pq_co2)
          have := pq_hm_le S 1 30
          refine lv_aload_n hx hb dL_does_142 rfl (lv_at hl 2 rfl) ?_
          refine lv_iconst (v := nI 4) hx hb dL_does_143 (by decide) ?_
          have hPc : va_P D vwCl (pm_cl y L S Bs pi kn Gs sv U) s.heap := pq_cut hP
          refine vp_callSi (W.runV (As := [.int (nI 4)]) (rest := [.int (nI (pm_hm S 1 30)), .int (xw >>> ((nI 2) &&& 31)), .ref (L 0 0), .ref (L 0 0)]) ⟨hx, hb, hml, hown, hts⟩ (k_X3_count l D y L S Bs pi kn Gs sv U Bs Gs (nI 4) hI.1) (cwV 1 hts gL_does_X3_count rfl rfl rfl hd_X3_count ⟨Nat.le_of_ble_eq_true rfl, Nat.le_of_ble_eq_true rfl⟩) ⟨pm_ron_blind, va_recv hK hPc (ci := 3) (q0 := 0) rfl rfl, pm_ron_pre hPc hK hN⟩ rfl rfl hl.1 rfl (lv_room (Nat.le_of_ble_eq_true rfl)) dL_does_144 ⟨Nat.le_of_ble_eq_true rfl, Nat.le_of_ble_eq_true rfl⟩) (fun r94 h95 => ?_)
          obtain rfl : r94 = nI (pm_hm S 3 30) := h95.trans (pq_co4)
          have := pq_hm_le S 3 30
          refine kx_iadd hx hb dL_does_147 ?_
          refine vp_callSi (W.runS (As := [.int (xw >>> ((nI 2) &&& 31)), .int (nI ((pm_hm S 1 30) + (pm_hm S 3 30)))]) (rest := [.ref (L 0 0), .ref (L 0 0)]) ⟨hx, hb, hml, hown, hts⟩ (k_L_low l (xw >>> ((nI 2) &&& 31)) ((pm_hm S 1 30) + (pm_hm S 3 30)) (by omega) (by omega)) (va_cwS 2 hts gL_does_L_low rfl rfl rfl hd_L_low ⟨Nat.le_of_ble_eq_true rfl, Nat.le_of_ble_eq_true rfl⟩) ⟨pm_no_blind, pm_no_pre⟩ rfl rfl hl.1 rfl (lv_room (Nat.le_of_ble_eq_true rfl)) dL_does_148 ⟨Nat.le_of_ble_eq_true rfl, Nat.le_of_ble_eq_true rfl⟩) (fun r96 h97 => ?_)
          obtain ⟨t98, ht99, rfl⟩ := h97
          have hPc : va_P D vwCl (pm_cl y L S Bs pi kn Gs sv U) s.heap := pq_cut hP
          refine vp_callSi (W.runV (As := [.int (nI t98)]) (rest := [.ref (L 0 0)]) ⟨hx, hb, hml, hown, hts⟩ (k_X3_chosen l D y L S Bs pi kn Gs sv U Bs Gs (nI t98) hI.1) (cwV 1 hts gL_does_X3_chosen rfl rfl rfl hd_X3_chosen ⟨Nat.le_of_ble_eq_true rfl, Nat.le_of_ble_eq_true rfl⟩) ⟨pm_ro_blind, va_recv hK hPc (ci := 3) (q0 := 0) rfl rfl, pm_ro_pre hPc hK⟩ rfl rfl hl.1 rfl (lv_room (Nat.le_of_ble_eq_true rfl)) dL_does_151 ⟨Nat.le_of_ble_eq_true rfl, Nat.le_of_ble_eq_true rfl⟩) (fun r100 h101 => ?_)
          obtain rfl : r100 = nI (pq_sl S t98) := pq_ch hI (show t98 < pq_N S by unfold pq_N; omega) h101
          have hsl := (pq_sl_s hI (show t98 < pq_N S by unfold pq_N; omega)).1
          refine lv_goto (tgt := 159) hx hb dL_does_154 (by decide) ?_
          refine lv_iconst (v := nI 1) hx hb dL_does_159 (by decide) ?_
          refine lv_iload_n hx hb dL_does_160 rfl (lv_at hl 5 rfl) ?_
          refine lv_iconst (v := nI 5) hx hb dL_does_161 (by decide) ?_
          refine lv_ishr hx hb dL_does_162 ?_
          refine lv_iconst (v := nI 3) hx hb dL_does_163 (by decide) ?_
          refine vp_callSi (W.runS (As := [.int (xw >>> ((nI 5) &&& 31)), .int (nI 3)]) (rest := [.int (nI 1), .int (nI (pq_sl S t98)), .ref (L 0 0)]) ⟨hx, hb, hml, hown, hts⟩ (k_L_low l (xw >>> ((nI 5) &&& 31)) 3 (by decide) (by decide)) (va_cwS 2 hts gL_does_L_low rfl rfl rfl hd_L_low ⟨Nat.le_of_ble_eq_true rfl, Nat.le_of_ble_eq_true rfl⟩) ⟨pm_no_blind, pm_no_pre⟩ rfl rfl hl.1 rfl (lv_room (Nat.le_of_ble_eq_true rfl)) dL_does_164 ⟨Nat.le_of_ble_eq_true rfl, Nat.le_of_ble_eq_true rfl⟩) (fun r102 h103 => ?_)
          obtain ⟨t104, ht105, rfl⟩ := h103
          refine kx_iadd hx hb dL_does_167 ?_
          have hPc : va_P D vwCl (pm_cl y L S Bs pi kn Gs sv U) s.heap := pq_cut hP
          have hDc := pq_cutD hD
          refine va_calli (va_runS (As := [.ref (L 0 0), .int (nI (pq_sl S t98)), .int (nI (1 + t104))]) (rest := []) ⟨hx, hb, hml, hown, hts⟩ (k_L_isPrinted l D y L S Bs pi kn Gs sv U (pq_sl S t98) (1 + t104) hI hC (by omega) (by omega) (by omega)) (va_cwS 3 hts gL_does_L_isPrinted rfl rfl rfl hd_L_isPrinted ⟨Nat.le_of_ble_eq_true rfl, Nat.le_of_ble_eq_true rfl⟩) ⟨pm_wrn_blind, pm_wrn_pre hPc hK hDc hN⟩ rfl rfl hl.1 rfl (lv_room (Nat.le_of_ble_eq_true rfl)) dL_does_168 ⟨Nat.le_of_ble_eq_true rfl, Nat.le_of_ble_eq_true rfl⟩) hS (fun q _ h9 => pm_ad_all hDc q h9) (pm_ad_all hDc) (fun r106 u111 t107 H1 locs ht108 _ h112 hB109 _ hk110 hS => ?_)
          obtain ⟨rfl, hI113, hC114⟩ := h112
          obtain ⟨hP, hD⟩ := pq_mid (w' := pm_cl y L u111.1 u111.2.1 u111.2.2.1 u111.2.2.2 Gs sv U) hP hD hk110 (by rw [← ht108]; exact hB109) (pm_cl_fst ..)
          generalize H1 = H at hP hS ⊢
          have hP : va_P D vwCl ((dd, .inl ((y 0), 36, .inl F)) :: pm_cl y L u111.1 u111.2.1 u111.2.2.1 u111.2.2.2 Gs sv U) H := hP
          have hD : va_D (pm_ad ((dd, .inl ((y 0), 36, .inl F)) :: pm_cl y L S Bs pi kn Gs sv U)) ((dd, .inl ((y 0), 36, .inl F)) :: pm_cl y L u111.1 u111.2.1 u111.2.2.1 u111.2.2.2 Gs sv U) := hD
          exact W.zret (ty := .boolean) hx hb hr rfl (fun t ht _ => ⟨⟨_, ((u111.1, u111.2.1, u111.2.2.1, u111.2.2.2), F), rfl, ⟨rfl, hI113, hC114⟩, (by show va_P D vwCl ((dd, .inl ((y 0), 36, .inl F)) :: pm_cl y L u111.1 u111.2.1 u111.2.2.1 u111.2.2.2 Gs sv U) t.heap; rw [ht]; exact hP)⟩, hS.F ht⟩) hS.2.2 dL_does_171
    · skip
      refine lv_tableIn (off := 82) (tgt := 118) hx hb dL_does_36 (by decide) (by decide) (by decide) (by decide) ?_
      refine lv_aload_n hx hb dL_does_118 rfl (lv_at hl 2 rfl) ?_
      refine lv_aload_n hx hb dL_does_119 rfl (lv_at hl 2 rfl) ?_
      refine lv_iconst (v := nI 2) hx hb dL_does_120 (by decide) ?_
      have hPc : va_P D vwCl (pm_cl y L S Bs pi kn Gs sv U) s.heap := pq_cut hP
      refine vp_callSi (W.runV (As := [.int (nI 2)]) (rest := [.ref (L 0 0)]) ⟨hx, hb, hml, hown, hts⟩ (k_X3_count l D y L S Bs pi kn Gs sv U Bs Gs (nI 2) hI.1) (cwV 1 hts gL_does_X3_count rfl rfl rfl hd_X3_count ⟨Nat.le_of_ble_eq_true rfl, Nat.le_of_ble_eq_true rfl⟩) ⟨pm_ron_blind, va_recv hK hPc (ci := 3) (q0 := 0) rfl rfl, pm_ron_pre hPc hK hN⟩ rfl rfl hl.1 rfl (lv_room (Nat.le_of_ble_eq_true rfl)) dL_does_121 ⟨Nat.le_of_ble_eq_true rfl, Nat.le_of_ble_eq_true rfl⟩) (fun r115 h116 => ?_)
      obtain rfl : r115 = nI (pm_hm S 1 30) := h116.trans (pq_co2)
      have := pq_hm_le S 1 30
      refine kx_if_le (tgt := 157) hx hb (by omega) dL_does_124 (by decide) (fun c117 => ?_) (fun c117 => ?_)
      · skip
        refine lv_iload hx hb dL_does_157 (lv_at hl 1 rfl) ?_
        refine lv_iconst (v := nI 1) hx hb dL_does_159 (by decide) ?_
        refine lv_iload_n hx hb dL_does_160 rfl (lv_at hl 5 rfl) ?_
        refine lv_iconst (v := nI 5) hx hb dL_does_161 (by decide) ?_
        refine lv_ishr hx hb dL_does_162 ?_
        refine lv_iconst (v := nI 3) hx hb dL_does_163 (by decide) ?_
        refine vp_callSi (W.runS (As := [.int (xw >>> ((nI 5) &&& 31)), .int (nI 3)]) (rest := [.int (nI 1), .int (nI t), .ref (L 0 0)]) ⟨hx, hb, hml, hown, hts⟩ (k_L_low l (xw >>> ((nI 5) &&& 31)) 3 (by decide) (by decide)) (va_cwS 2 hts gL_does_L_low rfl rfl rfl hd_L_low ⟨Nat.le_of_ble_eq_true rfl, Nat.le_of_ble_eq_true rfl⟩) ⟨pm_no_blind, pm_no_pre⟩ rfl rfl hl.1 rfl (lv_room (Nat.le_of_ble_eq_true rfl)) dL_does_164 ⟨Nat.le_of_ble_eq_true rfl, Nat.le_of_ble_eq_true rfl⟩) (fun r118 h119 => ?_)
        obtain ⟨t120, ht121, rfl⟩ := h119
        refine kx_iadd hx hb dL_does_167 ?_
        have hPc : va_P D vwCl (pm_cl y L S Bs pi kn Gs sv U) s.heap := pq_cut hP
        have hDc := pq_cutD hD
        refine va_calli (va_runS (As := [.ref (L 0 0), .int (nI t), .int (nI (1 + t120))]) (rest := []) ⟨hx, hb, hml, hown, hts⟩ (k_L_isPrinted l D y L S Bs pi kn Gs sv U t (1 + t120) hI hC (by omega) (by omega) (by omega)) (va_cwS 3 hts gL_does_L_isPrinted rfl rfl rfl hd_L_isPrinted ⟨Nat.le_of_ble_eq_true rfl, Nat.le_of_ble_eq_true rfl⟩) ⟨pm_wrn_blind, pm_wrn_pre hPc hK hDc hN⟩ rfl rfl hl.1 rfl (lv_room (Nat.le_of_ble_eq_true rfl)) dL_does_168 ⟨Nat.le_of_ble_eq_true rfl, Nat.le_of_ble_eq_true rfl⟩) hS (fun q _ h9 => pm_ad_all hDc q h9) (pm_ad_all hDc) (fun r122 u127 t123 H1 locs ht124 _ h128 hB125 _ hk126 hS => ?_)
        obtain ⟨rfl, hI129, hC130⟩ := h128
        obtain ⟨hP, hD⟩ := pq_mid (w' := pm_cl y L u127.1 u127.2.1 u127.2.2.1 u127.2.2.2 Gs sv U) hP hD hk126 (by rw [← ht124]; exact hB125) (pm_cl_fst ..)
        generalize H1 = H at hP hS ⊢
        have hP : va_P D vwCl ((dd, .inl ((y 0), 36, .inl F)) :: pm_cl y L u127.1 u127.2.1 u127.2.2.1 u127.2.2.2 Gs sv U) H := hP
        have hD : va_D (pm_ad ((dd, .inl ((y 0), 36, .inl F)) :: pm_cl y L S Bs pi kn Gs sv U)) ((dd, .inl ((y 0), 36, .inl F)) :: pm_cl y L u127.1 u127.2.1 u127.2.2.1 u127.2.2.2 Gs sv U) := hD
        exact W.zret (ty := .boolean) hx hb hr rfl (fun t ht _ => ⟨⟨_, ((u127.1, u127.2.1, u127.2.2.1, u127.2.2.2), F), rfl, ⟨rfl, hI129, hC130⟩, (by show va_P D vwCl ((dd, .inl ((y 0), 36, .inl F)) :: pm_cl y L u127.1 u127.2.1 u127.2.2.1 u127.2.2.2 Gs sv U) t.heap; rw [ht]; exact hP)⟩, hS.F ht⟩) hS.2.2 dL_does_171
      · skip
        refine lv_iload_n hx hb dL_does_127 rfl (lv_at hl 5 rfl) ?_
        refine lv_iconst (v := nI 3) hx hb dL_does_128 (by decide) ?_
        refine lv_iand hx hb dL_does_129 ?_
        refine lv_if_le (tgt := 157) hx hb dL_does_130 (by decide) (fun c131 => ?_) (fun c131 => ?_)
        · skip
          refine lv_iload hx hb dL_does_157 (lv_at hl 1 rfl) ?_
          refine lv_iconst (v := nI 1) hx hb dL_does_159 (by decide) ?_
          refine lv_iload_n hx hb dL_does_160 rfl (lv_at hl 5 rfl) ?_
          refine lv_iconst (v := nI 5) hx hb dL_does_161 (by decide) ?_
          refine lv_ishr hx hb dL_does_162 ?_
          refine lv_iconst (v := nI 3) hx hb dL_does_163 (by decide) ?_
          refine vp_callSi (W.runS (As := [.int (xw >>> ((nI 5) &&& 31)), .int (nI 3)]) (rest := [.int (nI 1), .int (nI t), .ref (L 0 0)]) ⟨hx, hb, hml, hown, hts⟩ (k_L_low l (xw >>> ((nI 5) &&& 31)) 3 (by decide) (by decide)) (va_cwS 2 hts gL_does_L_low rfl rfl rfl hd_L_low ⟨Nat.le_of_ble_eq_true rfl, Nat.le_of_ble_eq_true rfl⟩) ⟨pm_no_blind, pm_no_pre⟩ rfl rfl hl.1 rfl (lv_room (Nat.le_of_ble_eq_true rfl)) dL_does_164 ⟨Nat.le_of_ble_eq_true rfl, Nat.le_of_ble_eq_true rfl⟩) (fun r132 h133 => ?_)
          obtain ⟨t134, ht135, rfl⟩ := h133
          refine kx_iadd hx hb dL_does_167 ?_
          have hPc : va_P D vwCl (pm_cl y L S Bs pi kn Gs sv U) s.heap := pq_cut hP
          have hDc := pq_cutD hD
          refine va_calli (va_runS (As := [.ref (L 0 0), .int (nI t), .int (nI (1 + t134))]) (rest := []) ⟨hx, hb, hml, hown, hts⟩ (k_L_isPrinted l D y L S Bs pi kn Gs sv U t (1 + t134) hI hC (by omega) (by omega) (by omega)) (va_cwS 3 hts gL_does_L_isPrinted rfl rfl rfl hd_L_isPrinted ⟨Nat.le_of_ble_eq_true rfl, Nat.le_of_ble_eq_true rfl⟩) ⟨pm_wrn_blind, pm_wrn_pre hPc hK hDc hN⟩ rfl rfl hl.1 rfl (lv_room (Nat.le_of_ble_eq_true rfl)) dL_does_168 ⟨Nat.le_of_ble_eq_true rfl, Nat.le_of_ble_eq_true rfl⟩) hS (fun q _ h9 => pm_ad_all hDc q h9) (pm_ad_all hDc) (fun r136 u141 t137 H1 locs ht138 _ h142 hB139 _ hk140 hS => ?_)
          obtain ⟨rfl, hI143, hC144⟩ := h142
          obtain ⟨hP, hD⟩ := pq_mid (w' := pm_cl y L u141.1 u141.2.1 u141.2.2.1 u141.2.2.2 Gs sv U) hP hD hk140 (by rw [← ht138]; exact hB139) (pm_cl_fst ..)
          generalize H1 = H at hP hS ⊢
          have hP : va_P D vwCl ((dd, .inl ((y 0), 36, .inl F)) :: pm_cl y L u141.1 u141.2.1 u141.2.2.1 u141.2.2.2 Gs sv U) H := hP
          have hD : va_D (pm_ad ((dd, .inl ((y 0), 36, .inl F)) :: pm_cl y L S Bs pi kn Gs sv U)) ((dd, .inl ((y 0), 36, .inl F)) :: pm_cl y L u141.1 u141.2.1 u141.2.2.1 u141.2.2.2 Gs sv U) := hD
          exact W.zret (ty := .boolean) hx hb hr rfl (fun t ht _ => ⟨⟨_, ((u141.1, u141.2.1, u141.2.2.1, u141.2.2.2), F), rfl, ⟨rfl, hI143, hC144⟩, (by show va_P D vwCl ((dd, .inl ((y 0), 36, .inl F)) :: pm_cl y L u141.1 u141.2.1 u141.2.2.1 u141.2.2.2 Gs sv U) t.heap; rw [ht]; exact hP)⟩, hS.F ht⟩) hS.2.2 dL_does_171
        · skip
          refine lv_aload_n hx hb dL_does_133 rfl (lv_at hl 2 rfl) ?_
          refine lv_iload_n hx hb dL_does_134 rfl (lv_at hl 5 rfl) ?_
          refine lv_iconst (v := nI 2) hx hb dL_does_135 (by decide) ?_
          refine lv_ishr hx hb dL_does_136 ?_
          refine lv_aload_n hx hb dL_does_137 rfl (lv_at hl 2 rfl) ?_
          refine lv_iconst (v := nI 2) hx hb dL_does_138 (by decide) ?_
          have hPc : va_P D vwCl (pm_cl y L S Bs pi kn Gs sv U) s.heap := pq_cut hP
          refine vp_callSi (W.runV (As := [.int (nI 2)]) (rest := [.int (xw >>> ((nI 2) &&& 31)), .ref (L 0 0), .ref (L 0 0)]) ⟨hx, hb, hml, hown, hts⟩ (k_X3_count l D y L S Bs pi kn Gs sv U Bs Gs (nI 2) hI.1) (cwV 1 hts gL_does_X3_count rfl rfl rfl hd_X3_count ⟨Nat.le_of_ble_eq_true rfl, Nat.le_of_ble_eq_true rfl⟩) ⟨pm_ron_blind, va_recv hK hPc (ci := 3) (q0 := 0) rfl rfl, pm_ron_pre hPc hK hN⟩ rfl rfl hl.1 rfl (lv_room (Nat.le_of_ble_eq_true rfl)) dL_does_139 ⟨Nat.le_of_ble_eq_true rfl, Nat.le_of_ble_eq_true rfl⟩) (fun r145 h146 => ?_)
          obtain rfl : r145 = nI (pm_hm S 1 30) := h146.trans (pq_co2)
          have := pq_hm_le S 1 30
          refine lv_aload_n hx hb dL_does_142 rfl (lv_at hl 2 rfl) ?_
          refine lv_iconst (v := nI 4) hx hb dL_does_143 (by decide) ?_
          have hPc : va_P D vwCl (pm_cl y L S Bs pi kn Gs sv U) s.heap := pq_cut hP
          refine vp_callSi (W.runV (As := [.int (nI 4)]) (rest := [.int (nI (pm_hm S 1 30)), .int (xw >>> ((nI 2) &&& 31)), .ref (L 0 0), .ref (L 0 0)]) ⟨hx, hb, hml, hown, hts⟩ (k_X3_count l D y L S Bs pi kn Gs sv U Bs Gs (nI 4) hI.1) (cwV 1 hts gL_does_X3_count rfl rfl rfl hd_X3_count ⟨Nat.le_of_ble_eq_true rfl, Nat.le_of_ble_eq_true rfl⟩) ⟨pm_ron_blind, va_recv hK hPc (ci := 3) (q0 := 0) rfl rfl, pm_ron_pre hPc hK hN⟩ rfl rfl hl.1 rfl (lv_room (Nat.le_of_ble_eq_true rfl)) dL_does_144 ⟨Nat.le_of_ble_eq_true rfl, Nat.le_of_ble_eq_true rfl⟩) (fun r147 h148 => ?_)
          obtain rfl : r147 = nI (pm_hm S 3 30) := h148.trans (pq_co4)
          have := pq_hm_le S 3 30
          refine kx_iadd hx hb dL_does_147 ?_
          refine vp_callSi (W.runS (As := [.int (xw >>> ((nI 2) &&& 31)), .int (nI ((pm_hm S 1 30) + (pm_hm S 3 30)))]) (rest := [.ref (L 0 0), .ref (L 0 0)]) ⟨hx, hb, hml, hown, hts⟩ (k_L_low l (xw >>> ((nI 2) &&& 31)) ((pm_hm S 1 30) + (pm_hm S 3 30)) (by omega) (by omega)) (va_cwS 2 hts gL_does_L_low rfl rfl rfl hd_L_low ⟨Nat.le_of_ble_eq_true rfl, Nat.le_of_ble_eq_true rfl⟩) ⟨pm_no_blind, pm_no_pre⟩ rfl rfl hl.1 rfl (lv_room (Nat.le_of_ble_eq_true rfl)) dL_does_148 ⟨Nat.le_of_ble_eq_true rfl, Nat.le_of_ble_eq_true rfl⟩) (fun r149 h150 => ?_)
          obtain ⟨t151, ht152, rfl⟩ := h150
          have hPc : va_P D vwCl (pm_cl y L S Bs pi kn Gs sv U) s.heap := pq_cut hP
          refine vp_callSi (W.runV (As := [.int (nI t151)]) (rest := [.ref (L 0 0)]) ⟨hx, hb, hml, hown, hts⟩ (k_X3_chosen l D y L S Bs pi kn Gs sv U Bs Gs (nI t151) hI.1) (cwV 1 hts gL_does_X3_chosen rfl rfl rfl hd_X3_chosen ⟨Nat.le_of_ble_eq_true rfl, Nat.le_of_ble_eq_true rfl⟩) ⟨pm_ro_blind, va_recv hK hPc (ci := 3) (q0 := 0) rfl rfl, pm_ro_pre hPc hK⟩ rfl rfl hl.1 rfl (lv_room (Nat.le_of_ble_eq_true rfl)) dL_does_151 ⟨Nat.le_of_ble_eq_true rfl, Nat.le_of_ble_eq_true rfl⟩) (fun r153 h154 => ?_)
          obtain rfl : r153 = nI (pq_sl S t151) := pq_ch hI (show t151 < pq_N S by unfold pq_N; omega) h154
          have hsl := (pq_sl_s hI (show t151 < pq_N S by unfold pq_N; omega)).1
          refine lv_goto (tgt := 159) hx hb dL_does_154 (by decide) ?_
          refine lv_iconst (v := nI 1) hx hb dL_does_159 (by decide) ?_
          refine lv_iload_n hx hb dL_does_160 rfl (lv_at hl 5 rfl) ?_
          refine lv_iconst (v := nI 5) hx hb dL_does_161 (by decide) ?_
          refine lv_ishr hx hb dL_does_162 ?_
          refine lv_iconst (v := nI 3) hx hb dL_does_163 (by decide) ?_
          refine vp_callSi (W.runS (As := [.int (xw >>> ((nI 5) &&& 31)), .int (nI 3)]) (rest := [.int (nI 1), .int (nI (pq_sl S t151)), .ref (L 0 0)]) ⟨hx, hb, hml, hown, hts⟩ (k_L_low l (xw >>> ((nI 5) &&& 31)) 3 (by decide) (by decide)) (va_cwS 2 hts gL_does_L_low rfl rfl rfl hd_L_low ⟨Nat.le_of_ble_eq_true rfl, Nat.le_of_ble_eq_true rfl⟩) ⟨pm_no_blind, pm_no_pre⟩ rfl rfl hl.1 rfl (lv_room (Nat.le_of_ble_eq_true rfl)) dL_does_164 ⟨Nat.le_of_ble_eq_true rfl, Nat.le_of_ble_eq_true rfl⟩) (fun r155 h156 => ?_)
          obtain ⟨t157, ht158, rfl⟩ := h156
          refine kx_iadd hx hb dL_does_167 ?_
          have hPc : va_P D vwCl (pm_cl y L S Bs pi kn Gs sv U) s.heap := pq_cut hP
          have hDc := pq_cutD hD
          refine va_calli (va_runS (As := [.ref (L 0 0), .int (nI (pq_sl S t151)), .int (nI (1 + t157))]) (rest := []) ⟨hx, hb, hml, hown, hts⟩ (k_L_isPrinted l D y L S Bs pi kn Gs sv U (pq_sl S t151) (1 + t157) hI hC (by omega) (by omega) (by omega)) (va_cwS 3 hts gL_does_L_isPrinted rfl rfl rfl hd_L_isPrinted ⟨Nat.le_of_ble_eq_true rfl, Nat.le_of_ble_eq_true rfl⟩) ⟨pm_wrn_blind, pm_wrn_pre hPc hK hDc hN⟩ rfl rfl hl.1 rfl (lv_room (Nat.le_of_ble_eq_true rfl)) dL_does_168 ⟨Nat.le_of_ble_eq_true rfl, Nat.le_of_ble_eq_true rfl⟩) hS (fun q _ h9 => pm_ad_all hDc q h9) (pm_ad_all hDc) (fun r159 u164 t160 H1 locs ht161 _ h165 hB162 _ hk163 hS => ?_)
          obtain ⟨rfl, hI166, hC167⟩ := h165
          obtain ⟨hP, hD⟩ := pq_mid (w' := pm_cl y L u164.1 u164.2.1 u164.2.2.1 u164.2.2.2 Gs sv U) hP hD hk163 (by rw [← ht161]; exact hB162) (pm_cl_fst ..)
          generalize H1 = H at hP hS ⊢
          have hP : va_P D vwCl ((dd, .inl ((y 0), 36, .inl F)) :: pm_cl y L u164.1 u164.2.1 u164.2.2.1 u164.2.2.2 Gs sv U) H := hP
          have hD : va_D (pm_ad ((dd, .inl ((y 0), 36, .inl F)) :: pm_cl y L S Bs pi kn Gs sv U)) ((dd, .inl ((y 0), 36, .inl F)) :: pm_cl y L u164.1 u164.2.1 u164.2.2.1 u164.2.2.2 Gs sv U) := hD
          exact W.zret (ty := .boolean) hx hb hr rfl (fun t ht _ => ⟨⟨_, ((u164.1, u164.2.1, u164.2.2.1, u164.2.2.2), F), rfl, ⟨rfl, hI166, hC167⟩, (by show va_P D vwCl ((dd, .inl ((y 0), 36, .inl F)) :: pm_cl y L u164.1 u164.2.1 u164.2.2.1 u164.2.2.2 Gs sv U) t.heap; rw [ht]; exact hP)⟩, hS.F ht⟩) hS.2.2 dL_does_171
    · skip
      refine lv_tableIn (off := 136) (tgt := 172) hx hb dL_does_36 (by decide) (by decide) (by decide) (by decide) ?_
      refine lv_aload_n hx hb dL_does_172 rfl (lv_at hl 2 rfl) ?_
      refine lv_iconst (v := nI 5) hx hb dL_does_173 (by decide) ?_
      have hPc : va_P D vwCl (pm_cl y L S Bs pi kn Gs sv U) s.heap := pq_cut hP
      refine vp_callSi (W.runV (As := [.int (nI 5)]) (rest := []) ⟨hx, hb, hml, hown, hts⟩ (k_X3_count l D y L S Bs pi kn Gs sv U Bs Gs (nI 5) hI.1) (cwV 1 hts gL_does_X3_count rfl rfl rfl hd_X3_count ⟨Nat.le_of_ble_eq_true rfl, Nat.le_of_ble_eq_true rfl⟩) ⟨pm_ron_blind, va_recv hK hPc (ci := 3) (q0 := 0) rfl rfl, pm_ron_pre hPc hK hN⟩ rfl rfl hl.1 rfl (lv_room (Nat.le_of_ble_eq_true rfl)) dL_does_174 ⟨Nat.le_of_ble_eq_true rfl, Nat.le_of_ble_eq_true rfl⟩) (fun r168 h169 => ?_)
      obtain rfl : r168 = nI (S 10 1) := h169.trans (pq_co5)
      have := hI.1.pap
      refine lv_istore (lv' := [(6, .int (nI (S 10 1))), (5, .int (nI t3)), (4, .int (nI t)), (0, .ref (L 0 0)), (1, .ref dd), (2, .int xv), (3, .int xw)]) hx hb dL_does_177 hl (by decide) rfl (fun ls hl => ?_)
      refine lv_iconst (v := nI 1) hx hb dL_does_179 (by decide) ?_
      refine lv_iload_n hx hb dL_does_180 rfl (lv_at hl 6 rfl) ?_
      refine lv_bipush (v := nI 99) hx hb dL_does_181 (by decide) ?_
      refine vp_callSi (W.runS (As := [.int xw, .int (nI 99)]) (rest := [.int (nI 1)]) ⟨hx, hb, hml, hown, hts⟩ (k_L_low l xw 99 (by decide) (by decide)) (va_cwS 2 hts gL_does_L_low rfl rfl rfl hd_L_low ⟨Nat.le_of_ble_eq_true rfl, Nat.le_of_ble_eq_true rfl⟩) ⟨pm_no_blind, pm_no_pre⟩ rfl rfl hl.1 rfl (lv_room (Nat.le_of_ble_eq_true rfl)) dL_does_183 ⟨Nat.le_of_ble_eq_true rfl, Nat.le_of_ble_eq_true rfl⟩) (fun r170 h171 => ?_)
      obtain ⟨t172, ht173, rfl⟩ := h171
      refine kx_iadd hx hb dL_does_186 ?_
      refine lv_istore (lv' := [(7, .int (nI (1 + t172))), (6, .int (nI (S 10 1))), (5, .int (nI t3)), (4, .int (nI t)), (0, .ref (L 0 0)), (1, .ref dd), (2, .int xv), (3, .int xw)]) hx hb dL_does_187 hl (by decide) rfl (fun ls hl => ?_)
      refine lv_iload hx hb dL_does_189 (lv_at hl 1 rfl) ?_
      refine lv_iload hx hb dL_does_191 (lv_at hl 0 rfl) ?_
      refine kx_iadd hx hb dL_does_193 ?_
      refine lv_sipush (v := nI 999) hx hb dL_does_194 (by decide) ?_
      refine kx_icmp_le (tgt := 206) hx hb (by omega) (by decide) dL_does_197 (by decide) (fun c174 => ?_) (fun c174 => ?_)
      · skip
        refine lv_iload hx hb dL_does_206 (lv_at hl 1 rfl) ?_
        refine lv_iload hx hb dL_does_208 (lv_at hl 0 rfl) ?_
        refine kx_iadd hx hb dL_does_210 ?_
        refine lv_istore (lv' := [(8, .int (nI ((S 10 1) + (1 + t172)))), (7, .int (nI (1 + t172))), (6, .int (nI (S 10 1))), (5, .int (nI t3)), (4, .int (nI t)), (0, .ref (L 0 0)), (1, .ref dd), (2, .int xv), (3, .int xw)]) hx hb dL_does_211 hl (by decide) rfl (fun ls hl => ?_)
        refine lv_aload_n hx hb dL_does_213 rfl (lv_at hl 5 rfl) ?_
        refine lv_iload hx hb dL_does_214 (lv_at hl 1 rfl) ?_
        obtain ⟨T, E, t10⟩ := pq_buyE (S := S) (b := 1 + t172) (v := (S 10 1) + (1 + t172)) (by omega) (by omega) (by first | rw [if_neg (by omega)] | rw [if_pos (by omega)])
        have hIT : pq_I T := by have h8 := pq_buy hI (nI (1 + t172)); rw [E] at h8; exact h8
        have hPc : va_P D vwCl (pm_cl y L S Bs pi kn Gs sv U) s.heap := pq_cut hP
        have hDc := pq_cutD hD
        refine va_calli (va_runV (As := [.int (nI (1 + t172))]) (rest := []) ⟨hx, hb, hml, hown, hts⟩ (k_X3_buy l D y L S Bs pi kn Gs sv U (fun i => Bs (pi i)) Gs (nI (1 + t172)) (pq_CI hC) hI.1) (cwV 1 hts gL_does_X3_buy rfl rfl rfl hd_X3_buy ⟨Nat.le_of_ble_eq_true rfl, Nat.le_of_ble_eq_true rfl⟩) ⟨pm_wr_blind, va_recv hK hPc (ci := 3) (q0 := 0) rfl rfl, pm_wr_pre hPc hK hDc⟩ rfl rfl hl.1 rfl (lv_room (Nat.le_of_ble_eq_true rfl)) dL_does_216 ⟨Nat.le_of_ble_eq_true rfl, Nat.le_of_ble_eq_true rfl⟩) hS (fun q _ h9 => pm_ad_all hDc q h9) (pm_ad_all hDc) (fun r175 u180 t176 H1 locs ht177 _ h181 hB178 _ hk179 hS => ?_)
        have hB178 : va_P D vwCl (pm_cl y L T (pm_ub Bs (pi kn) S) (pm_rp pi kn (nI ((S 10 1) + (1 + t172)))) (pm_rk kn (nI ((S 10 1) + (1 + t172)))) Gs sv U) H1 := by have h8 : va_P D vwCl (pm_cl y L (pm_aBuy S (nI (1 + t172))).2 (pm_ub Bs (pi kn) S) (pm_rp pi kn (pm_aBuy S (nI (1 + t172))).1) (pm_rk kn (pm_aBuy S (nI (1 + t172))).1) Gs sv U) t176.heap := hB178; rw [E] at h8; rw [← ht177]; exact h8
        obtain rfl : r175 = nI ((S 10 1) + (1 + t172)) := h181.trans (by rw [E])
        obtain ⟨hP, hD⟩ := pq_mid (w' := pm_cl y L T (pm_ub Bs (pi kn) S) (pm_rp pi kn (nI ((S 10 1) + (1 + t172)))) (pm_rk kn (nI ((S 10 1) + (1 + t172)))) Gs sv U) hP hD hk179 hB178 (pm_cl_fst ..)
        have hC182 := pq_C_r hC (nI ((S 10 1) + (1 + t172)))
        generalize pm_ub Bs (pi kn) S = Bs183 at hP hD
        generalize pm_rp pi kn (nI ((S 10 1) + (1 + t172))) = pi184 at hP hD hC182
        generalize pm_rk kn (nI ((S 10 1) + (1 + t172))) = kn185 at hP hD hC182
        generalize H1 = H at hP hS ⊢
        have hP : va_P D vwCl ((dd, .inl ((y 0), 36, .inl F)) :: pm_cl y L T Bs183 pi184 kn185 Gs sv U) H := hP
        have hD : va_D (pm_ad ((dd, .inl ((y 0), 36, .inl F)) :: pm_cl y L S Bs pi kn Gs sv U)) ((dd, .inl ((y 0), 36, .inl F)) :: pm_cl y L T Bs183 pi184 kn185 Gs sv U) := hD
        refine lv_iload hx hb dL_does_219 (lv_at hl 0 rfl) ?_
        refine kx_icmp_ne (tgt := 238) hx hb (by omega) (by omega) dL_does_221 (by decide) (fun c186 => by exfalso; omega) (fun c186 => ?_)
        refine lv_aload_n hx hb dL_does_224 rfl (lv_at hl 5 rfl) ?_
        refine lv_iconst (v := nI 5) hx hb dL_does_225 (by decide) ?_
        have hPc : va_P D vwCl (pm_cl y L T Bs183 pi184 kn185 Gs sv U) H := pq_cut hP
        refine vp_callSi (W.runV (As := [.int (nI 5)]) (rest := []) ⟨hx, hb, hml, hown, hts⟩ (k_X3_count l D y L T Bs183 pi184 kn185 Gs sv U Bs Gs (nI 5) hIT.1) (cwV 1 hts gL_does_X3_count rfl rfl rfl hd_X3_count ⟨Nat.le_of_ble_eq_true rfl, Nat.le_of_ble_eq_true rfl⟩) ⟨pm_ron_blind, va_recv hK hPc (ci := 3) (q0 := 0) rfl rfl, pm_ron_pre hPc hK hN⟩ rfl rfl hl.1 rfl (lv_room (Nat.le_of_ble_eq_true rfl)) dL_does_226 ⟨Nat.le_of_ble_eq_true rfl, Nat.le_of_ble_eq_true rfl⟩) (fun r187 h188 => ?_)
        obtain rfl : r187 = nI (T 10 1) := h188.trans (pq_co5)
        have := hIT.1.pap
        refine lv_iload hx hb dL_does_229 (lv_at hl 0 rfl) ?_
        refine kx_icmp_ne (tgt := 238) hx hb (by omega) (by omega) dL_does_231 (by decide) (fun c189 => by exfalso; omega) (fun c189 => ?_)
        refine lv_iconst (v := nI 1) hx hb dL_does_234 (by decide) ?_
        refine lv_goto (tgt := 239) hx hb dL_does_235 (by decide) ?_
        exact W.zret (ty := .boolean) hx hb hr rfl (fun t ht _ => ⟨⟨_, ((T, Bs183, pi184, kn185), F), rfl, ⟨rfl, hIT, hC182⟩, (by show va_P D vwCl ((dd, .inl ((y 0), 36, .inl F)) :: pm_cl y L T Bs183 pi184 kn185 Gs sv U) t.heap; rw [ht]; exact hP)⟩, hS.F ht⟩) hS.2.2 dL_does_239
      · skip
        refine lv_sipush (v := nI 999) hx hb dL_does_200 (by decide) ?_
        refine lv_goto (tgt := 211) hx hb dL_does_203 (by decide) ?_
        refine lv_istore (lv' := [(8, .int (nI 999)), (7, .int (nI (1 + t172))), (6, .int (nI (S 10 1))), (5, .int (nI t3)), (4, .int (nI t)), (0, .ref (L 0 0)), (1, .ref dd), (2, .int xv), (3, .int xw)]) hx hb dL_does_211 hl (by decide) rfl (fun ls hl => ?_)
        refine lv_aload_n hx hb dL_does_213 rfl (lv_at hl 5 rfl) ?_
        refine lv_iload hx hb dL_does_214 (lv_at hl 1 rfl) ?_
        obtain ⟨T, E, t10⟩ := pq_buyE (S := S) (b := 1 + t172) (v := 999) (by omega) (by omega) (by first | rw [if_neg (by omega)] | rw [if_pos (by omega)])
        have hIT : pq_I T := by have h8 := pq_buy hI (nI (1 + t172)); rw [E] at h8; exact h8
        have hPc : va_P D vwCl (pm_cl y L S Bs pi kn Gs sv U) s.heap := pq_cut hP
        have hDc := pq_cutD hD
        refine va_calli (va_runV (As := [.int (nI (1 + t172))]) (rest := []) ⟨hx, hb, hml, hown, hts⟩ (k_X3_buy l D y L S Bs pi kn Gs sv U (fun i => Bs (pi i)) Gs (nI (1 + t172)) (pq_CI hC) hI.1) (cwV 1 hts gL_does_X3_buy rfl rfl rfl hd_X3_buy ⟨Nat.le_of_ble_eq_true rfl, Nat.le_of_ble_eq_true rfl⟩) ⟨pm_wr_blind, va_recv hK hPc (ci := 3) (q0 := 0) rfl rfl, pm_wr_pre hPc hK hDc⟩ rfl rfl hl.1 rfl (lv_room (Nat.le_of_ble_eq_true rfl)) dL_does_216 ⟨Nat.le_of_ble_eq_true rfl, Nat.le_of_ble_eq_true rfl⟩) hS (fun q _ h9 => pm_ad_all hDc q h9) (pm_ad_all hDc) (fun r190 u195 t191 H1 locs ht192 _ h196 hB193 _ hk194 hS => ?_)
        have hB193 : va_P D vwCl (pm_cl y L T (pm_ub Bs (pi kn) S) (pm_rp pi kn (nI 999)) (pm_rk kn (nI 999)) Gs sv U) H1 := by have h8 : va_P D vwCl (pm_cl y L (pm_aBuy S (nI (1 + t172))).2 (pm_ub Bs (pi kn) S) (pm_rp pi kn (pm_aBuy S (nI (1 + t172))).1) (pm_rk kn (pm_aBuy S (nI (1 + t172))).1) Gs sv U) t191.heap := hB193; rw [E] at h8; rw [← ht192]; exact h8
        obtain rfl : r190 = nI 999 := h196.trans (by rw [E])
        obtain ⟨hP, hD⟩ := pq_mid (w' := pm_cl y L T (pm_ub Bs (pi kn) S) (pm_rp pi kn (nI 999)) (pm_rk kn (nI 999)) Gs sv U) hP hD hk194 hB193 (pm_cl_fst ..)
        have hC197 := pq_C_r hC (nI 999)
        generalize pm_ub Bs (pi kn) S = Bs198 at hP hD
        generalize pm_rp pi kn (nI 999) = pi199 at hP hD hC197
        generalize pm_rk kn (nI 999) = kn200 at hP hD hC197
        generalize H1 = H at hP hS ⊢
        have hP : va_P D vwCl ((dd, .inl ((y 0), 36, .inl F)) :: pm_cl y L T Bs198 pi199 kn200 Gs sv U) H := hP
        have hD : va_D (pm_ad ((dd, .inl ((y 0), 36, .inl F)) :: pm_cl y L S Bs pi kn Gs sv U)) ((dd, .inl ((y 0), 36, .inl F)) :: pm_cl y L T Bs198 pi199 kn200 Gs sv U) := hD
        refine lv_iload hx hb dL_does_219 (lv_at hl 0 rfl) ?_
        refine lv_icmp_ne (tgt := 238) hx hb dL_does_221 (by decide) (fun c201 => (c201 (by decide)).elim) (fun _ => ?_)
        refine lv_aload_n hx hb dL_does_224 rfl (lv_at hl 5 rfl) ?_
        refine lv_iconst (v := nI 5) hx hb dL_does_225 (by decide) ?_
        have hPc : va_P D vwCl (pm_cl y L T Bs198 pi199 kn200 Gs sv U) H := pq_cut hP
        refine vp_callSi (W.runV (As := [.int (nI 5)]) (rest := []) ⟨hx, hb, hml, hown, hts⟩ (k_X3_count l D y L T Bs198 pi199 kn200 Gs sv U Bs Gs (nI 5) hIT.1) (cwV 1 hts gL_does_X3_count rfl rfl rfl hd_X3_count ⟨Nat.le_of_ble_eq_true rfl, Nat.le_of_ble_eq_true rfl⟩) ⟨pm_ron_blind, va_recv hK hPc (ci := 3) (q0 := 0) rfl rfl, pm_ron_pre hPc hK hN⟩ rfl rfl hl.1 rfl (lv_room (Nat.le_of_ble_eq_true rfl)) dL_does_226 ⟨Nat.le_of_ble_eq_true rfl, Nat.le_of_ble_eq_true rfl⟩) (fun r202 h203 => ?_)
        obtain rfl : r202 = nI (T 10 1) := h203.trans (pq_co5)
        have := hIT.1.pap
        refine lv_iload hx hb dL_does_229 (lv_at hl 0 rfl) ?_
        refine kx_icmp_ne (tgt := 238) hx hb (by omega) (by decide) dL_does_231 (by decide) (fun c204 => by exfalso; omega) (fun c204 => ?_)
        refine lv_iconst (v := nI 1) hx hb dL_does_234 (by decide) ?_
        refine lv_goto (tgt := 239) hx hb dL_does_235 (by decide) ?_
        exact W.zret (ty := .boolean) hx hb hr rfl (fun t ht _ => ⟨⟨_, ((T, Bs198, pi199, kn200), F), rfl, ⟨rfl, hIT, hC197⟩, (by show va_P D vwCl ((dd, .inl ((y 0), 36, .inl F)) :: pm_cl y L T Bs198 pi199 kn200 Gs sv U) t.heap; rw [ht]; exact hP)⟩, hS.F ht⟩) hS.2.2 dL_does_239
    · skip
      refine lv_tableIn (off := 204) (tgt := 240) hx hb dL_does_36 (by decide) (by decide) (by decide) (by decide) ?_
      refine lv_aload_n hx hb dL_does_240 rfl (lv_at hl 2 rfl) ?_
      refine lv_iload hx hb dL_does_241 (lv_at hl 1 rfl) ?_
      refine lv_iconst (v := nI 0) hx hb dL_does_243 (by decide) ?_
      have hPc : va_P D vwCl (pm_cl y L S Bs pi kn Gs sv U) s.heap := pq_cut hP
      refine vp_callSi (W.runV (As := [.int (nI t), .int (nI 0)]) (rest := []) ⟨hx, hb, hml, hown, hts⟩ (k_X3_of l D y L S Bs pi kn Gs sv U Bs Gs (nI t) (nI 0) hI.1) (cwV 2 hts gL_does_X3_of rfl rfl rfl hd_X3_of ⟨Nat.le_of_ble_eq_true rfl, Nat.le_of_ble_eq_true rfl⟩) ⟨pm_ro_blind, va_recv hK hPc (ci := 3) (q0 := 0) rfl rfl, pm_ro_pre hPc hK⟩ rfl rfl hl.1 rfl (lv_room (Nat.le_of_ble_eq_true rfl)) dL_does_244 ⟨Nat.le_of_ble_eq_true rfl, Nat.le_of_ble_eq_true rfl⟩) (fun r205 h206 => ?_)
      obtain rfl : r205 = nI (S 0 t) := h206.trans (pq_of0 (by omega))
      have := hI.1.how t (by omega)
      rcases (show S 0 t = 0 ∨ S 0 t = 1 ∨ S 0 t = 2 ∨ S 0 t = 3 by omega) with h0 | h0 | h0 | h0
      · skip
        refine lv_topi (fun x207 e208 => ?_)
        obtain rfl : x207 = nI 0 := e208.trans (congrArg nI h0)
        have E := pq_reoN (S := S) (f := t) (by omega) (by omega)
        have h0T := h0
        refine lv_istore (lv' := [(9, .int (nI 0)), (5, .int (nI t3)), (4, .int (nI t)), (0, .ref (L 0 0)), (1, .ref dd), (2, .int xv), (3, .int xw)]) hx hb dL_does_247 hl (by decide) rfl (fun ls hl => ?_)
        refine lv_aload_n hx hb dL_does_249 rfl (lv_at hl 3 rfl) ?_
        refine lv_iload hx hb dL_does_250 (lv_at hl 2 rfl) ?_
        have hPc : va_P D vwCl (pm_cl y L S Bs pi kn Gs sv U) s.heap := pq_cut hP
        have hDc := pq_cutD hD
        refine va_calli (va_runV (As := [.int (nI t)]) (rest := []) ⟨hx, hb, hml, hown, hts⟩ (k_X3_reopen l D y L S Bs pi kn Gs sv U (fun i => Bs (pi i)) Gs (nI t) (pq_CI hC) hI.1) (cwV 1 hts gL_does_X3_reopen rfl rfl rfl hd_X3_reopen ⟨Nat.le_of_ble_eq_true rfl, Nat.le_of_ble_eq_true rfl⟩) ⟨pm_wr_blind, va_recv hK hPc (ci := 3) (q0 := 0) rfl rfl, pm_wr_pre hPc hK hDc⟩ rfl rfl hl.1 rfl (lv_room (Nat.le_of_ble_eq_true rfl)) dL_does_252 ⟨Nat.le_of_ble_eq_true rfl, Nat.le_of_ble_eq_true rfl⟩) hS (fun q _ h9 => pm_ad_all hDc q h9) (pm_ad_all hDc) (fun r209 u214 t210 H1 locs ht211 _ h215 hB212 _ hk213 hS => ?_)
        have hB212 : va_P D vwCl (pm_cl y L S (pm_ub Bs (pi kn) S) (pm_rp pi kn (-5)) (pm_rk kn (-5)) Gs sv U) H1 := by have h8 : va_P D vwCl (pm_cl y L (pm_aReopen S (nI t)).2 (pm_ub Bs (pi kn) S) (pm_rp pi kn (pm_aReopen S (nI t)).1) (pm_rk kn (pm_aReopen S (nI t)).1) Gs sv U) t210.heap := hB212; rw [E] at h8; rw [← ht211]; exact h8
        obtain rfl : r209 = -5 := h215.trans (by rw [E])
        obtain ⟨hP, hD⟩ := pq_mid (w' := pm_cl y L S (pm_ub Bs (pi kn) S) (pm_rp pi kn (-5)) (pm_rk kn (-5)) Gs sv U) hP hD hk213 hB212 (pm_cl_fst ..)
        have hC216 := pq_C_r hC (-5)
        generalize pm_ub Bs (pi kn) S = Bs217 at hP hD
        generalize pm_rp pi kn (-5) = pi218 at hP hD hC216
        generalize pm_rk kn (-5) = kn219 at hP hD hC216
        generalize H1 = H at hP hS ⊢
        have hP : va_P D vwCl ((dd, .inl ((y 0), 36, .inl F)) :: pm_cl y L S Bs217 pi218 kn219 Gs sv U) H := hP
        have hD : va_D (pm_ad ((dd, .inl ((y 0), 36, .inl F)) :: pm_cl y L S Bs pi kn Gs sv U)) ((dd, .inl ((y 0), 36, .inl F)) :: pm_cl y L S Bs217 pi218 kn219 Gs sv U) := hD
        refine lv_iload hx hb dL_does_255 (lv_at hl 0 rfl) ?_
        refine lv_if_eq (tgt := 266) hx hb dL_does_257 (by decide) (fun _ => ?_) (fun c220 => (c220 (by decide)).elim)
        refine lv_bipush (v := (-5)) hx hb dL_does_266 (by decide) ?_
        refine lv_goto (tgt := 273) hx hb dL_does_268 (by decide) ?_
        refine lv_icmp_ne (tgt := 311) hx hb dL_does_273 (by decide) (fun c221 => (c221 (by decide)).elim) (fun _ => ?_)
        refine lv_iload hx hb dL_does_276 (lv_at hl 0 rfl) ?_
        refine lv_iconst (v := nI 3) hx hb dL_does_278 (by decide) ?_
        refine lv_icmp_eq (tgt := 307) hx hb dL_does_279 (by decide) (fun c222 => absurd c222 (by decide)) (fun _ => ?_)
        refine lv_aload_n hx hb dL_does_282 rfl (lv_at hl 3 rfl) ?_
        refine lv_iload hx hb dL_does_283 (lv_at hl 2 rfl) ?_
        refine lv_iconst (v := nI 0) hx hb dL_does_285 (by decide) ?_
        have hPc : va_P D vwCl (pm_cl y L S Bs217 pi218 kn219 Gs sv U) H := pq_cut hP
        refine vp_callSi (W.runV (As := [.int (nI t), .int (nI 0)]) (rest := []) ⟨hx, hb, hml, hown, hts⟩ (k_X3_of l D y L S Bs217 pi218 kn219 Gs sv U Bs Gs (nI t) (nI 0) hI.1) (cwV 2 hts gL_does_X3_of rfl rfl rfl hd_X3_of ⟨Nat.le_of_ble_eq_true rfl, Nat.le_of_ble_eq_true rfl⟩) ⟨pm_ro_blind, va_recv hK hPc (ci := 3) (q0 := 0) rfl rfl, pm_ro_pre hPc hK⟩ rfl rfl hl.1 rfl (lv_room (Nat.le_of_ble_eq_true rfl)) dL_does_286 ⟨Nat.le_of_ble_eq_true rfl, Nat.le_of_ble_eq_true rfl⟩) (fun r223 h224 => ?_)
        obtain rfl : r223 = nI (S 0 t) := h224.trans (pq_of0 (by omega))
        have := hI.1.how t (by omega)
        refine kx_if_ne (tgt := 311) hx hb (by omega) dL_does_289 (by decide) (fun c225 => by exfalso; omega) (fun c225 => ?_)
        refine lv_iload hx hb dL_does_292 (lv_at hl 0 rfl) ?_
        refine lv_if_eq (tgt := 307) hx hb dL_does_294 (by decide) (fun _ => ?_) (fun c226 => (c226 (by decide)).elim)
        refine lv_iconst (v := nI 1) hx hb dL_does_307 (by decide) ?_
        refine lv_goto (tgt := 312) hx hb dL_does_308 (by decide) ?_
        exact W.zret (ty := .boolean) hx hb hr rfl (fun t ht _ => ⟨⟨_, ((S, Bs217, pi218, kn219), F), rfl, ⟨rfl, hI, hC216⟩, (by show va_P D vwCl ((dd, .inl ((y 0), 36, .inl F)) :: pm_cl y L S Bs217 pi218 kn219 Gs sv U) t.heap; rw [ht]; exact hP)⟩, hS.F ht⟩) hS.2.2 dL_does_312
      · skip
        refine lv_topi (fun x227 e228 => ?_)
        obtain rfl : x227 = nI 1 := e228.trans (congrArg nI h0)
        obtain ⟨T, E, h0T, h1T⟩ := pq_reoE (S := S) (f := t) (by omega) (by omega) h0
        have hIT : pq_I T := by have h8 := pq_reopen hI (nI t); rw [E] at h8; exact h8
        refine lv_istore (lv' := [(9, .int (nI 1)), (5, .int (nI t3)), (4, .int (nI t)), (0, .ref (L 0 0)), (1, .ref dd), (2, .int xv), (3, .int xw)]) hx hb dL_does_247 hl (by decide) rfl (fun ls hl => ?_)
        refine lv_aload_n hx hb dL_does_249 rfl (lv_at hl 3 rfl) ?_
        refine lv_iload hx hb dL_does_250 (lv_at hl 2 rfl) ?_
        have hPc : va_P D vwCl (pm_cl y L S Bs pi kn Gs sv U) s.heap := pq_cut hP
        have hDc := pq_cutD hD
        refine va_calli (va_runV (As := [.int (nI t)]) (rest := []) ⟨hx, hb, hml, hown, hts⟩ (k_X3_reopen l D y L S Bs pi kn Gs sv U (fun i => Bs (pi i)) Gs (nI t) (pq_CI hC) hI.1) (cwV 1 hts gL_does_X3_reopen rfl rfl rfl hd_X3_reopen ⟨Nat.le_of_ble_eq_true rfl, Nat.le_of_ble_eq_true rfl⟩) ⟨pm_wr_blind, va_recv hK hPc (ci := 3) (q0 := 0) rfl rfl, pm_wr_pre hPc hK hDc⟩ rfl rfl hl.1 rfl (lv_room (Nat.le_of_ble_eq_true rfl)) dL_does_252 ⟨Nat.le_of_ble_eq_true rfl, Nat.le_of_ble_eq_true rfl⟩) hS (fun q _ h9 => pm_ad_all hDc q h9) (pm_ad_all hDc) (fun r229 u234 t230 H1 locs ht231 _ h235 hB232 _ hk233 hS => ?_)
        have hB232 : va_P D vwCl (pm_cl y L T (pm_ub Bs (pi kn) S) (pm_rp pi kn (nI 1)) (pm_rk kn (nI 1)) Gs sv U) H1 := by have h8 : va_P D vwCl (pm_cl y L (pm_aReopen S (nI t)).2 (pm_ub Bs (pi kn) S) (pm_rp pi kn (pm_aReopen S (nI t)).1) (pm_rk kn (pm_aReopen S (nI t)).1) Gs sv U) t230.heap := hB232; rw [E] at h8; rw [← ht231]; exact h8
        obtain rfl : r229 = nI 1 := h235.trans (by rw [E])
        obtain ⟨hP, hD⟩ := pq_mid (w' := pm_cl y L T (pm_ub Bs (pi kn) S) (pm_rp pi kn (nI 1)) (pm_rk kn (nI 1)) Gs sv U) hP hD hk233 hB232 (pm_cl_fst ..)
        have hC236 := pq_C_r hC (nI 1)
        generalize pm_ub Bs (pi kn) S = Bs237 at hP hD
        generalize pm_rp pi kn (nI 1) = pi238 at hP hD hC236
        generalize pm_rk kn (nI 1) = kn239 at hP hD hC236
        generalize H1 = H at hP hS ⊢
        have hP : va_P D vwCl ((dd, .inl ((y 0), 36, .inl F)) :: pm_cl y L T Bs237 pi238 kn239 Gs sv U) H := hP
        have hD : va_D (pm_ad ((dd, .inl ((y 0), 36, .inl F)) :: pm_cl y L S Bs pi kn Gs sv U)) ((dd, .inl ((y 0), 36, .inl F)) :: pm_cl y L T Bs237 pi238 kn239 Gs sv U) := hD
        refine lv_iload hx hb dL_does_255 (lv_at hl 0 rfl) ?_
        refine lv_if_eq (tgt := 266) hx hb dL_does_257 (by decide) (fun c240 => absurd c240 (by decide)) (fun _ => ?_)
        refine lv_iload hx hb dL_does_260 (lv_at hl 0 rfl) ?_
        refine lv_iconst (v := nI 3) hx hb dL_does_262 (by decide) ?_
        refine lv_icmp_ne (tgt := 271) hx hb dL_does_263 (by decide) (fun _ => ?_) (fun c241 => absurd c241 (by decide))
        refine lv_iload hx hb dL_does_271 (lv_at hl 0 rfl) ?_
        refine lv_icmp_ne (tgt := 311) hx hb dL_does_273 (by decide) (fun c242 => (c242 (by decide)).elim) (fun _ => ?_)
        refine lv_iload hx hb dL_does_276 (lv_at hl 0 rfl) ?_
        refine lv_iconst (v := nI 3) hx hb dL_does_278 (by decide) ?_
        refine lv_icmp_eq (tgt := 307) hx hb dL_does_279 (by decide) (fun c243 => absurd c243 (by decide)) (fun _ => ?_)
        refine lv_aload_n hx hb dL_does_282 rfl (lv_at hl 3 rfl) ?_
        refine lv_iload hx hb dL_does_283 (lv_at hl 2 rfl) ?_
        refine lv_iconst (v := nI 0) hx hb dL_does_285 (by decide) ?_
        have hPc : va_P D vwCl (pm_cl y L T Bs237 pi238 kn239 Gs sv U) H := pq_cut hP
        refine vp_callSi (W.runV (As := [.int (nI t), .int (nI 0)]) (rest := []) ⟨hx, hb, hml, hown, hts⟩ (k_X3_of l D y L T Bs237 pi238 kn239 Gs sv U Bs Gs (nI t) (nI 0) hIT.1) (cwV 2 hts gL_does_X3_of rfl rfl rfl hd_X3_of ⟨Nat.le_of_ble_eq_true rfl, Nat.le_of_ble_eq_true rfl⟩) ⟨pm_ro_blind, va_recv hK hPc (ci := 3) (q0 := 0) rfl rfl, pm_ro_pre hPc hK⟩ rfl rfl hl.1 rfl (lv_room (Nat.le_of_ble_eq_true rfl)) dL_does_286 ⟨Nat.le_of_ble_eq_true rfl, Nat.le_of_ble_eq_true rfl⟩) (fun r244 h245 => ?_)
        obtain rfl : r244 = nI (T 0 t) := h245.trans (pq_of0 (by omega))
        have := hIT.1.how t (by omega)
        refine kx_if_ne (tgt := 311) hx hb (by omega) dL_does_289 (by decide) (fun c246 => by exfalso; omega) (fun c246 => ?_)
        refine lv_iload hx hb dL_does_292 (lv_at hl 0 rfl) ?_
        refine lv_if_eq (tgt := 307) hx hb dL_does_294 (by decide) (fun c247 => absurd c247 (by decide)) (fun _ => ?_)
        refine lv_aload_n hx hb dL_does_297 rfl (lv_at hl 3 rfl) ?_
        refine lv_iload hx hb dL_does_298 (lv_at hl 2 rfl) ?_
        refine lv_iconst (v := nI 3) hx hb dL_does_300 (by decide) ?_
        have hPc : va_P D vwCl (pm_cl y L T Bs237 pi238 kn239 Gs sv U) H := pq_cut hP
        refine vp_callSi (W.runV (As := [.int (nI t), .int (nI 3)]) (rest := []) ⟨hx, hb, hml, hown, hts⟩ (k_X3_of l D y L T Bs237 pi238 kn239 Gs sv U Bs Gs (nI t) (nI 3) hIT.1) (cwV 2 hts gL_does_X3_of rfl rfl rfl hd_X3_of ⟨Nat.le_of_ble_eq_true rfl, Nat.le_of_ble_eq_true rfl⟩) ⟨pm_ro_blind, va_recv hK hPc (ci := 3) (q0 := 0) rfl rfl, pm_ro_pre hPc hK⟩ rfl rfl hl.1 rfl (lv_room (Nat.le_of_ble_eq_true rfl)) dL_does_301 ⟨Nat.le_of_ble_eq_true rfl, Nat.le_of_ble_eq_true rfl⟩) (fun r248 h249 => ?_)
        obtain rfl : r248 = nI (T 1 t) := h249.trans (pq_of3 (by omega))
        have := hIT.1.dull t (by omega)
        have := hIT.1.rnd
        refine kx_if_ne (tgt := 311) hx hb (by omega) dL_does_304 (by decide) (fun c250 => by exfalso; omega) (fun c250 => ?_)
        refine lv_iconst (v := nI 1) hx hb dL_does_307 (by decide) ?_
        refine lv_goto (tgt := 312) hx hb dL_does_308 (by decide) ?_
        exact W.zret (ty := .boolean) hx hb hr rfl (fun t ht _ => ⟨⟨_, ((T, Bs237, pi238, kn239), F), rfl, ⟨rfl, hIT, hC236⟩, (by show va_P D vwCl ((dd, .inl ((y 0), 36, .inl F)) :: pm_cl y L T Bs237 pi238 kn239 Gs sv U) t.heap; rw [ht]; exact hP)⟩, hS.F ht⟩) hS.2.2 dL_does_312
      · skip
        refine lv_topi (fun x251 e252 => ?_)
        obtain rfl : x251 = nI 2 := e252.trans (congrArg nI h0)
        obtain ⟨T, E, h0T, h1T⟩ := pq_reoE (S := S) (f := t) (by omega) (by omega) h0
        have hIT : pq_I T := by have h8 := pq_reopen hI (nI t); rw [E] at h8; exact h8
        refine lv_istore (lv' := [(9, .int (nI 2)), (5, .int (nI t3)), (4, .int (nI t)), (0, .ref (L 0 0)), (1, .ref dd), (2, .int xv), (3, .int xw)]) hx hb dL_does_247 hl (by decide) rfl (fun ls hl => ?_)
        refine lv_aload_n hx hb dL_does_249 rfl (lv_at hl 3 rfl) ?_
        refine lv_iload hx hb dL_does_250 (lv_at hl 2 rfl) ?_
        have hPc : va_P D vwCl (pm_cl y L S Bs pi kn Gs sv U) s.heap := pq_cut hP
        have hDc := pq_cutD hD
        refine va_calli (va_runV (As := [.int (nI t)]) (rest := []) ⟨hx, hb, hml, hown, hts⟩ (k_X3_reopen l D y L S Bs pi kn Gs sv U (fun i => Bs (pi i)) Gs (nI t) (pq_CI hC) hI.1) (cwV 1 hts gL_does_X3_reopen rfl rfl rfl hd_X3_reopen ⟨Nat.le_of_ble_eq_true rfl, Nat.le_of_ble_eq_true rfl⟩) ⟨pm_wr_blind, va_recv hK hPc (ci := 3) (q0 := 0) rfl rfl, pm_wr_pre hPc hK hDc⟩ rfl rfl hl.1 rfl (lv_room (Nat.le_of_ble_eq_true rfl)) dL_does_252 ⟨Nat.le_of_ble_eq_true rfl, Nat.le_of_ble_eq_true rfl⟩) hS (fun q _ h9 => pm_ad_all hDc q h9) (pm_ad_all hDc) (fun r253 u258 t254 H1 locs ht255 _ h259 hB256 _ hk257 hS => ?_)
        have hB256 : va_P D vwCl (pm_cl y L T (pm_ub Bs (pi kn) S) (pm_rp pi kn (nI 2)) (pm_rk kn (nI 2)) Gs sv U) H1 := by have h8 : va_P D vwCl (pm_cl y L (pm_aReopen S (nI t)).2 (pm_ub Bs (pi kn) S) (pm_rp pi kn (pm_aReopen S (nI t)).1) (pm_rk kn (pm_aReopen S (nI t)).1) Gs sv U) t254.heap := hB256; rw [E] at h8; rw [← ht255]; exact h8
        obtain rfl : r253 = nI 2 := h259.trans (by rw [E])
        obtain ⟨hP, hD⟩ := pq_mid (w' := pm_cl y L T (pm_ub Bs (pi kn) S) (pm_rp pi kn (nI 2)) (pm_rk kn (nI 2)) Gs sv U) hP hD hk257 hB256 (pm_cl_fst ..)
        have hC260 := pq_C_r hC (nI 2)
        generalize pm_ub Bs (pi kn) S = Bs261 at hP hD
        generalize pm_rp pi kn (nI 2) = pi262 at hP hD hC260
        generalize pm_rk kn (nI 2) = kn263 at hP hD hC260
        generalize H1 = H at hP hS ⊢
        have hP : va_P D vwCl ((dd, .inl ((y 0), 36, .inl F)) :: pm_cl y L T Bs261 pi262 kn263 Gs sv U) H := hP
        have hD : va_D (pm_ad ((dd, .inl ((y 0), 36, .inl F)) :: pm_cl y L S Bs pi kn Gs sv U)) ((dd, .inl ((y 0), 36, .inl F)) :: pm_cl y L T Bs261 pi262 kn263 Gs sv U) := hD
        refine lv_iload hx hb dL_does_255 (lv_at hl 0 rfl) ?_
        refine lv_if_eq (tgt := 266) hx hb dL_does_257 (by decide) (fun c264 => absurd c264 (by decide)) (fun _ => ?_)
        refine lv_iload hx hb dL_does_260 (lv_at hl 0 rfl) ?_
        refine lv_iconst (v := nI 3) hx hb dL_does_262 (by decide) ?_
        refine lv_icmp_ne (tgt := 271) hx hb dL_does_263 (by decide) (fun _ => ?_) (fun c265 => absurd c265 (by decide))
        refine lv_iload hx hb dL_does_271 (lv_at hl 0 rfl) ?_
        refine lv_icmp_ne (tgt := 311) hx hb dL_does_273 (by decide) (fun c266 => (c266 (by decide)).elim) (fun _ => ?_)
        refine lv_iload hx hb dL_does_276 (lv_at hl 0 rfl) ?_
        refine lv_iconst (v := nI 3) hx hb dL_does_278 (by decide) ?_
        refine lv_icmp_eq (tgt := 307) hx hb dL_does_279 (by decide) (fun c267 => absurd c267 (by decide)) (fun _ => ?_)
        refine lv_aload_n hx hb dL_does_282 rfl (lv_at hl 3 rfl) ?_
        refine lv_iload hx hb dL_does_283 (lv_at hl 2 rfl) ?_
        refine lv_iconst (v := nI 0) hx hb dL_does_285 (by decide) ?_
        have hPc : va_P D vwCl (pm_cl y L T Bs261 pi262 kn263 Gs sv U) H := pq_cut hP
        refine vp_callSi (W.runV (As := [.int (nI t), .int (nI 0)]) (rest := []) ⟨hx, hb, hml, hown, hts⟩ (k_X3_of l D y L T Bs261 pi262 kn263 Gs sv U Bs Gs (nI t) (nI 0) hIT.1) (cwV 2 hts gL_does_X3_of rfl rfl rfl hd_X3_of ⟨Nat.le_of_ble_eq_true rfl, Nat.le_of_ble_eq_true rfl⟩) ⟨pm_ro_blind, va_recv hK hPc (ci := 3) (q0 := 0) rfl rfl, pm_ro_pre hPc hK⟩ rfl rfl hl.1 rfl (lv_room (Nat.le_of_ble_eq_true rfl)) dL_does_286 ⟨Nat.le_of_ble_eq_true rfl, Nat.le_of_ble_eq_true rfl⟩) (fun r268 h269 => ?_)
        obtain rfl : r268 = nI (T 0 t) := h269.trans (pq_of0 (by omega))
        have := hIT.1.how t (by omega)
        refine kx_if_ne (tgt := 311) hx hb (by omega) dL_does_289 (by decide) (fun c270 => by exfalso; omega) (fun c270 => ?_)
        refine lv_iload hx hb dL_does_292 (lv_at hl 0 rfl) ?_
        refine lv_if_eq (tgt := 307) hx hb dL_does_294 (by decide) (fun c271 => absurd c271 (by decide)) (fun _ => ?_)
        refine lv_aload_n hx hb dL_does_297 rfl (lv_at hl 3 rfl) ?_
        refine lv_iload hx hb dL_does_298 (lv_at hl 2 rfl) ?_
        refine lv_iconst (v := nI 3) hx hb dL_does_300 (by decide) ?_
        have hPc : va_P D vwCl (pm_cl y L T Bs261 pi262 kn263 Gs sv U) H := pq_cut hP
        refine vp_callSi (W.runV (As := [.int (nI t), .int (nI 3)]) (rest := []) ⟨hx, hb, hml, hown, hts⟩ (k_X3_of l D y L T Bs261 pi262 kn263 Gs sv U Bs Gs (nI t) (nI 3) hIT.1) (cwV 2 hts gL_does_X3_of rfl rfl rfl hd_X3_of ⟨Nat.le_of_ble_eq_true rfl, Nat.le_of_ble_eq_true rfl⟩) ⟨pm_ro_blind, va_recv hK hPc (ci := 3) (q0 := 0) rfl rfl, pm_ro_pre hPc hK⟩ rfl rfl hl.1 rfl (lv_room (Nat.le_of_ble_eq_true rfl)) dL_does_301 ⟨Nat.le_of_ble_eq_true rfl, Nat.le_of_ble_eq_true rfl⟩) (fun r272 h273 => ?_)
        obtain rfl : r272 = nI (T 1 t) := h273.trans (pq_of3 (by omega))
        have := hIT.1.dull t (by omega)
        have := hIT.1.rnd
        refine kx_if_ne (tgt := 311) hx hb (by omega) dL_does_304 (by decide) (fun c274 => by exfalso; omega) (fun c274 => ?_)
        refine lv_iconst (v := nI 1) hx hb dL_does_307 (by decide) ?_
        refine lv_goto (tgt := 312) hx hb dL_does_308 (by decide) ?_
        exact W.zret (ty := .boolean) hx hb hr rfl (fun t ht _ => ⟨⟨_, ((T, Bs261, pi262, kn263), F), rfl, ⟨rfl, hIT, hC260⟩, (by show va_P D vwCl ((dd, .inl ((y 0), 36, .inl F)) :: pm_cl y L T Bs261 pi262 kn263 Gs sv U) t.heap; rw [ht]; exact hP)⟩, hS.F ht⟩) hS.2.2 dL_does_312
      · skip
        refine lv_topi (fun x275 e276 => ?_)
        obtain rfl : x275 = nI 3 := e276.trans (congrArg nI h0)
        have E := pq_reoN (S := S) (f := t) (by omega) (by omega)
        refine lv_istore (lv' := [(9, .int (nI 3)), (5, .int (nI t3)), (4, .int (nI t)), (0, .ref (L 0 0)), (1, .ref dd), (2, .int xv), (3, .int xw)]) hx hb dL_does_247 hl (by decide) rfl (fun ls hl => ?_)
        refine lv_aload_n hx hb dL_does_249 rfl (lv_at hl 3 rfl) ?_
        refine lv_iload hx hb dL_does_250 (lv_at hl 2 rfl) ?_
        have hPc : va_P D vwCl (pm_cl y L S Bs pi kn Gs sv U) s.heap := pq_cut hP
        have hDc := pq_cutD hD
        refine va_calli (va_runV (As := [.int (nI t)]) (rest := []) ⟨hx, hb, hml, hown, hts⟩ (k_X3_reopen l D y L S Bs pi kn Gs sv U (fun i => Bs (pi i)) Gs (nI t) (pq_CI hC) hI.1) (cwV 1 hts gL_does_X3_reopen rfl rfl rfl hd_X3_reopen ⟨Nat.le_of_ble_eq_true rfl, Nat.le_of_ble_eq_true rfl⟩) ⟨pm_wr_blind, va_recv hK hPc (ci := 3) (q0 := 0) rfl rfl, pm_wr_pre hPc hK hDc⟩ rfl rfl hl.1 rfl (lv_room (Nat.le_of_ble_eq_true rfl)) dL_does_252 ⟨Nat.le_of_ble_eq_true rfl, Nat.le_of_ble_eq_true rfl⟩) hS (fun q _ h9 => pm_ad_all hDc q h9) (pm_ad_all hDc) (fun r277 u282 t278 H1 locs ht279 _ h283 hB280 _ hk281 hS => ?_)
        have hB280 : va_P D vwCl (pm_cl y L S (pm_ub Bs (pi kn) S) (pm_rp pi kn (-5)) (pm_rk kn (-5)) Gs sv U) H1 := by have h8 : va_P D vwCl (pm_cl y L (pm_aReopen S (nI t)).2 (pm_ub Bs (pi kn) S) (pm_rp pi kn (pm_aReopen S (nI t)).1) (pm_rk kn (pm_aReopen S (nI t)).1) Gs sv U) t278.heap := hB280; rw [E] at h8; rw [← ht279]; exact h8
        obtain rfl : r277 = -5 := h283.trans (by rw [E])
        obtain ⟨hP, hD⟩ := pq_mid (w' := pm_cl y L S (pm_ub Bs (pi kn) S) (pm_rp pi kn (-5)) (pm_rk kn (-5)) Gs sv U) hP hD hk281 hB280 (pm_cl_fst ..)
        have hC284 := pq_C_r hC (-5)
        generalize pm_ub Bs (pi kn) S = Bs285 at hP hD
        generalize pm_rp pi kn (-5) = pi286 at hP hD hC284
        generalize pm_rk kn (-5) = kn287 at hP hD hC284
        generalize H1 = H at hP hS ⊢
        have hP : va_P D vwCl ((dd, .inl ((y 0), 36, .inl F)) :: pm_cl y L S Bs285 pi286 kn287 Gs sv U) H := hP
        have hD : va_D (pm_ad ((dd, .inl ((y 0), 36, .inl F)) :: pm_cl y L S Bs pi kn Gs sv U)) ((dd, .inl ((y 0), 36, .inl F)) :: pm_cl y L S Bs285 pi286 kn287 Gs sv U) := hD
        refine lv_iload hx hb dL_does_255 (lv_at hl 0 rfl) ?_
        refine lv_if_eq (tgt := 266) hx hb dL_does_257 (by decide) (fun c288 => absurd c288 (by decide)) (fun _ => ?_)
        refine lv_iload hx hb dL_does_260 (lv_at hl 0 rfl) ?_
        refine lv_iconst (v := nI 3) hx hb dL_does_262 (by decide) ?_
        refine lv_icmp_ne (tgt := 271) hx hb dL_does_263 (by decide) (fun c289 => (c289 (by decide)).elim) (fun _ => ?_)
        refine lv_bipush (v := (-5)) hx hb dL_does_266 (by decide) ?_
        refine lv_goto (tgt := 273) hx hb dL_does_268 (by decide) ?_
        refine lv_icmp_ne (tgt := 311) hx hb dL_does_273 (by decide) (fun c290 => (c290 (by decide)).elim) (fun _ => ?_)
        refine lv_iload hx hb dL_does_276 (lv_at hl 0 rfl) ?_
        refine lv_iconst (v := nI 3) hx hb dL_does_278 (by decide) ?_
        refine lv_icmp_eq (tgt := 307) hx hb dL_does_279 (by decide) (fun _ => ?_) (fun c291 => (c291 (by decide)).elim)
        refine lv_iconst (v := nI 1) hx hb dL_does_307 (by decide) ?_
        refine lv_goto (tgt := 312) hx hb dL_does_308 (by decide) ?_
        exact W.zret (ty := .boolean) hx hb hr rfl (fun t ht _ => ⟨⟨_, ((S, Bs285, pi286, kn287), F), rfl, ⟨rfl, hI, hC284⟩, (by show va_P D vwCl ((dd, .inl ((y 0), 36, .inl F)) :: pm_cl y L S Bs285 pi286 kn287 Gs sv U) t.heap; rw [ht]; exact hP)⟩, hS.F ht⟩) hS.2.2 dL_does_312
    · skip
      refine lv_tableIn (off := 277) (tgt := 313) hx hb dL_does_36 (by decide) (by decide) (by decide) (by decide) ?_
      refine lv_iload_n hx hb dL_does_313 rfl (lv_at hl 4 rfl) ?_
      refine lv_iconst (v := nI 5) hx hb dL_does_314 (by decide) ?_
      refine lv_ishr hx hb dL_does_315 ?_
      refine lv_iconst (v := nI 4) hx hb dL_does_316 (by decide) ?_
      refine vp_callSi (W.runS (As := [.int (xv >>> ((nI 5) &&& 31)), .int (nI 4)]) (rest := []) ⟨hx, hb, hml, hown, hts⟩ (k_L_low l (xv >>> ((nI 5) &&& 31)) 4 (by decide) (by decide)) (va_cwS 2 hts gL_does_L_low rfl rfl rfl hd_L_low ⟨Nat.le_of_ble_eq_true rfl, Nat.le_of_ble_eq_true rfl⟩) ⟨pm_no_blind, pm_no_pre⟩ rfl rfl hl.1 rfl (lv_room (Nat.le_of_ble_eq_true rfl)) dL_does_317 ⟨Nat.le_of_ble_eq_true rfl, Nat.le_of_ble_eq_true rfl⟩) (fun r292 h293 => ?_)
      obtain ⟨t294, ht295, rfl⟩ := h293
      rcases (show t294 = 0 ∨ t294 = 1 ∨ t294 = 2 ∨ t294 = 3 by omega) with rfl | rfl | rfl | rfl
      · skip
        refine lv_istore (lv' := [(10, .int (nI 0)), (5, .int (nI t3)), (4, .int (nI t)), (0, .ref (L 0 0)), (1, .ref dd), (2, .int xv), (3, .int xw)]) hx hb dL_does_320 hl (by decide) rfl (fun ls hl => ?_)
        refine lv_iload hx hb dL_does_322 (lv_at hl 0 rfl) ?_
        refine lv_if_ne (tgt := 337) hx hb dL_does_324 (by decide) (fun c296 => (c296 (by decide)).elim) (fun _ => ?_)
        refine lv_iconst (v := nI 1) hx hb dL_does_327 (by decide) ?_
        refine lv_iload_n hx hb dL_does_328 rfl (lv_at hl 6 rfl) ?_
        refine lv_iconst (v := nI 3) hx hb dL_does_329 (by decide) ?_
        refine vp_callSi (W.runS (As := [.int xw, .int (nI 3)]) (rest := [.int (nI 1)]) ⟨hx, hb, hml, hown, hts⟩ (k_L_low l xw 3 (by decide) (by decide)) (va_cwS 2 hts gL_does_L_low rfl rfl rfl hd_L_low ⟨Nat.le_of_ble_eq_true rfl, Nat.le_of_ble_eq_true rfl⟩) ⟨pm_no_blind, pm_no_pre⟩ rfl rfl hl.1 rfl (lv_room (Nat.le_of_ble_eq_true rfl)) dL_does_330 ⟨Nat.le_of_ble_eq_true rfl, Nat.le_of_ble_eq_true rfl⟩) (fun r297 h298 => ?_)
        obtain ⟨t299, ht300, rfl⟩ := h298
        refine kx_iadd hx hb dL_does_333 ?_
        refine lv_goto (tgt := 376) hx hb dL_does_334 (by decide) ?_
        refine lv_istore (lv' := [(11, .int (nI (1 + t299))), (10, .int (nI 0)), (5, .int (nI t3)), (4, .int (nI t)), (0, .ref (L 0 0)), (1, .ref dd), (2, .int xv), (3, .int xw)]) hx hb dL_does_376 hl (by decide) rfl (fun ls hl => ?_)
        refine lv_aload_n hx hb dL_does_378 rfl (lv_at hl 4 rfl) ?_
        refine lv_bipush (v := nI 11) hx hb dL_does_379 (by decide) ?_
        refine lv_iload hx hb dL_does_381 (lv_at hl 1 rfl) ?_
        refine kx_iadd hx hb dL_does_383 ?_
        refine lv_topi (fun x301 e302 => ?_)
        obtain rfl : x301 = nI 11 := e302.trans (rfl)
        have hPc : va_P D vwCl (pm_cl y L S Bs pi kn Gs sv U) s.heap := pq_cut hP
        refine vp_callSi (W.runV (As := [.int (nI 11)]) (rest := []) ⟨hx, hb, hml, hown, hts⟩ (k_X3_count l D y L S Bs pi kn Gs sv U Bs Gs (nI 11) hI.1) (cwV 1 hts gL_does_X3_count rfl rfl rfl hd_X3_count ⟨Nat.le_of_ble_eq_true rfl, Nat.le_of_ble_eq_true rfl⟩) ⟨pm_ron_blind, va_recv hK hPc (ci := 3) (q0 := 0) rfl rfl, pm_ron_pre hPc hK hN⟩ rfl rfl hl.1 rfl (lv_room (Nat.le_of_ble_eq_true rfl)) dL_does_384 ⟨Nat.le_of_ble_eq_true rfl, Nat.le_of_ble_eq_true rfl⟩) (fun r303 h304 => ?_)
        obtain rfl : r303 = nI (S 9 0) := h304.trans (pq_co11)
        have := hI.1.set
        refine lv_istore (lv' := [(12, .int (nI (S 9 0))), (11, .int (nI (1 + t299))), (10, .int (nI 0)), (5, .int (nI t3)), (4, .int (nI t)), (0, .ref (L 0 0)), (1, .ref dd), (2, .int xv), (3, .int xw)]) hx hb dL_does_387 hl (by decide) rfl (fun ls hl => ?_)
        refine lv_aload_n hx hb dL_does_389 rfl (lv_at hl 5 rfl) ?_
        refine lv_iload hx hb dL_does_390 (lv_at hl 2 rfl) ?_
        refine lv_iload hx hb dL_does_392 (lv_at hl 1 rfl) ?_
        obtain ⟨T, E, t9⟩ := pq_setE (S := S) (i := 0) (v := 1 + t299) (by decide) (show (1 : Nat) ≤ (1 + t299) by omega) (show (1 + t299) ≤ 3 by omega)
        have hIT : pq_I T := by have h8 := pq_set hI (nI 0) (nI (1 + t299)); rw [E] at h8; exact h8
        have hPc : va_P D vwCl (pm_cl y L S Bs pi kn Gs sv U) s.heap := pq_cut hP
        have hDc := pq_cutD hD
        refine va_calli (va_runV (As := [.int (nI 0), .int (nI (1 + t299))]) (rest := []) ⟨hx, hb, hml, hown, hts⟩ (k_X3_set l D y L S Bs pi kn Gs sv U (fun i => Bs (pi i)) Gs tl tm (nI 0) (nI (1 + t299)) (pq_CI hC) hI.1) (cwV 2 hts gL_does_X3_set rfl rfl rfl hd_X3_set ⟨Nat.le_of_ble_eq_true rfl, Nat.le_of_ble_eq_true rfl⟩) ⟨pm_wrs_blind, va_recv hK hPc (ci := 3) (q0 := 0) rfl rfl, pm_wrs_pre (H0 := s.heap) hPc hK hDc (fun _ h => h) hS hT⟩ rfl rfl hl.1 rfl (lv_room (Nat.le_of_ble_eq_true rfl)) dL_does_394 ⟨Nat.le_of_ble_eq_true rfl, Nat.le_of_ble_eq_true rfl⟩) hS (fun q _ h9 => pm_ad_all hDc q h9) (pm_ad_all hDc) (fun r305 u310 t306 H1 locs ht307 _ h311 hB308 _ hk309 hS => ?_)
        have hB308 : va_P D vwCl (pm_cl y L T (pm_ub Bs (pi kn) S) (pm_rp pi kn (nI (S 9 0))) (pm_rk kn (nI (S 9 0))) Gs sv U) H1 := by have h8 : va_P D vwCl (pm_cl y L (pm_aSet S (nI 0) (nI (1 + t299))).2 (pm_ub Bs (pi kn) S) (pm_rp pi kn (pm_aSet S (nI 0) (nI (1 + t299))).1) (pm_rk kn (pm_aSet S (nI 0) (nI (1 + t299))).1) Gs sv U) t306.heap := hB308; rw [E] at h8; rw [← ht307]; exact h8
        obtain rfl : r305 = nI (S 9 0) := h311.trans (by rw [E])
        obtain ⟨hP, hD⟩ := pq_mid (w' := pm_cl y L T (pm_ub Bs (pi kn) S) (pm_rp pi kn (nI (S 9 0))) (pm_rk kn (nI (S 9 0))) Gs sv U) hP hD hk309 hB308 (pm_cl_fst ..)
        have hC312 := pq_C_r hC (nI (S 9 0))
        generalize pm_ub Bs (pi kn) S = Bs313 at hP hD
        generalize pm_rp pi kn (nI (S 9 0)) = pi314 at hP hD hC312
        generalize pm_rk kn (nI (S 9 0)) = kn315 at hP hD hC312
        generalize H1 = H at hP hS ⊢
        have hP : va_P D vwCl ((dd, .inl ((y 0), 36, .inl F)) :: pm_cl y L T Bs313 pi314 kn315 Gs sv U) H := hP
        have hD : va_D (pm_ad ((dd, .inl ((y 0), 36, .inl F)) :: pm_cl y L S Bs pi kn Gs sv U)) ((dd, .inl ((y 0), 36, .inl F)) :: pm_cl y L T Bs313 pi314 kn315 Gs sv U) := hD
        refine lv_iload hx hb dL_does_397 (lv_at hl 0 rfl) ?_
        refine kx_icmp_ne (tgt := 420) hx hb (by omega) (by omega) dL_does_399 (by decide) (fun c316 => by exfalso; omega) (fun c316 => ?_)
        refine lv_aload_n hx hb dL_does_402 rfl (lv_at hl 5 rfl) ?_
        refine lv_bipush (v := nI 11) hx hb dL_does_403 (by decide) ?_
        refine lv_iload hx hb dL_does_405 (lv_at hl 2 rfl) ?_
        refine kx_iadd hx hb dL_does_407 ?_
        refine lv_topi (fun x317 e318 => ?_)
        obtain rfl : x317 = nI 11 := e318.trans (rfl)
        have hPc : va_P D vwCl (pm_cl y L T Bs313 pi314 kn315 Gs sv U) H := pq_cut hP
        refine vp_callSi (W.runV (As := [.int (nI 11)]) (rest := []) ⟨hx, hb, hml, hown, hts⟩ (k_X3_count l D y L T Bs313 pi314 kn315 Gs sv U Bs Gs (nI 11) hIT.1) (cwV 1 hts gL_does_X3_count rfl rfl rfl hd_X3_count ⟨Nat.le_of_ble_eq_true rfl, Nat.le_of_ble_eq_true rfl⟩) ⟨pm_ron_blind, va_recv hK hPc (ci := 3) (q0 := 0) rfl rfl, pm_ron_pre hPc hK hN⟩ rfl rfl hl.1 rfl (lv_room (Nat.le_of_ble_eq_true rfl)) dL_does_408 ⟨Nat.le_of_ble_eq_true rfl, Nat.le_of_ble_eq_true rfl⟩) (fun r319 h320 => ?_)
        obtain rfl : r319 = nI (T 9 0) := h320.trans (pq_co11)
        have := hIT.1.set
        refine lv_iload hx hb dL_does_411 (lv_at hl 1 rfl) ?_
        refine kx_icmp_ne (tgt := 420) hx hb (by omega) (by omega) dL_does_413 (by decide) (fun c321 => by exfalso; omega) (fun c321 => ?_)
        refine lv_iconst (v := nI 1) hx hb dL_does_416 (by decide) ?_
        refine lv_goto (tgt := 421) hx hb dL_does_417 (by decide) ?_
        exact W.zret (ty := .boolean) hx hb hr rfl (fun t ht _ => ⟨⟨_, ((T, Bs313, pi314, kn315), F), rfl, ⟨rfl, hIT, hC312⟩, (by show va_P D vwCl ((dd, .inl ((y 0), 36, .inl F)) :: pm_cl y L T Bs313 pi314 kn315 Gs sv U) t.heap; rw [ht]; exact hP)⟩, hS.F ht⟩) hS.2.2 dL_does_421
      · skip
        refine lv_istore (lv' := [(10, .int (nI 1)), (5, .int (nI t3)), (4, .int (nI t)), (0, .ref (L 0 0)), (1, .ref dd), (2, .int xv), (3, .int xw)]) hx hb dL_does_320 hl (by decide) rfl (fun ls hl => ?_)
        refine lv_iload hx hb dL_does_322 (lv_at hl 0 rfl) ?_
        refine lv_if_ne (tgt := 337) hx hb dL_does_324 (by decide) (fun _ => ?_) (fun c322 => absurd c322 (by decide))
        refine lv_iload hx hb dL_does_337 (lv_at hl 0 rfl) ?_
        refine lv_iconst (v := nI 1) hx hb dL_does_339 (by decide) ?_
        refine lv_icmp_ne (tgt := 352) hx hb dL_does_340 (by decide) (fun c323 => (c323 (by decide)).elim) (fun _ => ?_)
        refine lv_iload_n hx hb dL_does_343 rfl (lv_at hl 6 rfl) ?_
        refine lv_bipush (v := nI 10) hx hb dL_does_344 (by decide) ?_
        refine vp_callSi (W.runS (As := [.int xw, .int (nI 10)]) (rest := []) ⟨hx, hb, hml, hown, hts⟩ (k_L_low l xw 10 (by decide) (by decide)) (va_cwS 2 hts gL_does_L_low rfl rfl rfl hd_L_low ⟨Nat.le_of_ble_eq_true rfl, Nat.le_of_ble_eq_true rfl⟩) ⟨pm_no_blind, pm_no_pre⟩ rfl rfl hl.1 rfl (lv_room (Nat.le_of_ble_eq_true rfl)) dL_does_346 ⟨Nat.le_of_ble_eq_true rfl, Nat.le_of_ble_eq_true rfl⟩) (fun r324 h325 => ?_)
        obtain ⟨t326, ht327, rfl⟩ := h325
        refine lv_goto (tgt := 376) hx hb dL_does_349 (by decide) ?_
        refine lv_istore (lv' := [(11, .int (nI t326)), (10, .int (nI 1)), (5, .int (nI t3)), (4, .int (nI t)), (0, .ref (L 0 0)), (1, .ref dd), (2, .int xv), (3, .int xw)]) hx hb dL_does_376 hl (by decide) rfl (fun ls hl => ?_)
        refine lv_aload_n hx hb dL_does_378 rfl (lv_at hl 4 rfl) ?_
        refine lv_bipush (v := nI 11) hx hb dL_does_379 (by decide) ?_
        refine lv_iload hx hb dL_does_381 (lv_at hl 1 rfl) ?_
        refine kx_iadd hx hb dL_does_383 ?_
        refine lv_topi (fun x328 e329 => ?_)
        obtain rfl : x328 = nI 12 := e329.trans (rfl)
        have hPc : va_P D vwCl (pm_cl y L S Bs pi kn Gs sv U) s.heap := pq_cut hP
        refine vp_callSi (W.runV (As := [.int (nI 12)]) (rest := []) ⟨hx, hb, hml, hown, hts⟩ (k_X3_count l D y L S Bs pi kn Gs sv U Bs Gs (nI 12) hI.1) (cwV 1 hts gL_does_X3_count rfl rfl rfl hd_X3_count ⟨Nat.le_of_ble_eq_true rfl, Nat.le_of_ble_eq_true rfl⟩) ⟨pm_ron_blind, va_recv hK hPc (ci := 3) (q0 := 0) rfl rfl, pm_ron_pre hPc hK hN⟩ rfl rfl hl.1 rfl (lv_room (Nat.le_of_ble_eq_true rfl)) dL_does_384 ⟨Nat.le_of_ble_eq_true rfl, Nat.le_of_ble_eq_true rfl⟩) (fun r330 h331 => ?_)
        obtain rfl : r330 = nI (S 9 1) := h331.trans (pq_co12)
        have := hI.1.set
        refine lv_istore (lv' := [(12, .int (nI (S 9 1))), (11, .int (nI t326)), (10, .int (nI 1)), (5, .int (nI t3)), (4, .int (nI t)), (0, .ref (L 0 0)), (1, .ref dd), (2, .int xv), (3, .int xw)]) hx hb dL_does_387 hl (by decide) rfl (fun ls hl => ?_)
        refine lv_aload_n hx hb dL_does_389 rfl (lv_at hl 5 rfl) ?_
        refine lv_iload hx hb dL_does_390 (lv_at hl 2 rfl) ?_
        refine lv_iload hx hb dL_does_392 (lv_at hl 1 rfl) ?_
        obtain ⟨T, E, t9⟩ := pq_setE (S := S) (i := 1) (v := t326) (by decide) (show (0 : Nat) ≤ t326 by omega) (show t326 ≤ 9 by omega)
        have hIT : pq_I T := by have h8 := pq_set hI (nI 1) (nI t326); rw [E] at h8; exact h8
        have hPc : va_P D vwCl (pm_cl y L S Bs pi kn Gs sv U) s.heap := pq_cut hP
        have hDc := pq_cutD hD
        refine va_calli (va_runV (As := [.int (nI 1), .int (nI t326)]) (rest := []) ⟨hx, hb, hml, hown, hts⟩ (k_X3_set l D y L S Bs pi kn Gs sv U (fun i => Bs (pi i)) Gs tl tm (nI 1) (nI t326) (pq_CI hC) hI.1) (cwV 2 hts gL_does_X3_set rfl rfl rfl hd_X3_set ⟨Nat.le_of_ble_eq_true rfl, Nat.le_of_ble_eq_true rfl⟩) ⟨pm_wrs_blind, va_recv hK hPc (ci := 3) (q0 := 0) rfl rfl, pm_wrs_pre (H0 := s.heap) hPc hK hDc (fun _ h => h) hS hT⟩ rfl rfl hl.1 rfl (lv_room (Nat.le_of_ble_eq_true rfl)) dL_does_394 ⟨Nat.le_of_ble_eq_true rfl, Nat.le_of_ble_eq_true rfl⟩) hS (fun q _ h9 => pm_ad_all hDc q h9) (pm_ad_all hDc) (fun r332 u337 t333 H1 locs ht334 _ h338 hB335 _ hk336 hS => ?_)
        have hB335 : va_P D vwCl (pm_cl y L T (pm_ub Bs (pi kn) S) (pm_rp pi kn (nI (S 9 1))) (pm_rk kn (nI (S 9 1))) Gs sv U) H1 := by have h8 : va_P D vwCl (pm_cl y L (pm_aSet S (nI 1) (nI t326)).2 (pm_ub Bs (pi kn) S) (pm_rp pi kn (pm_aSet S (nI 1) (nI t326)).1) (pm_rk kn (pm_aSet S (nI 1) (nI t326)).1) Gs sv U) t333.heap := hB335; rw [E] at h8; rw [← ht334]; exact h8
        obtain rfl : r332 = nI (S 9 1) := h338.trans (by rw [E])
        obtain ⟨hP, hD⟩ := pq_mid (w' := pm_cl y L T (pm_ub Bs (pi kn) S) (pm_rp pi kn (nI (S 9 1))) (pm_rk kn (nI (S 9 1))) Gs sv U) hP hD hk336 hB335 (pm_cl_fst ..)
        have hC339 := pq_C_r hC (nI (S 9 1))
        generalize pm_ub Bs (pi kn) S = Bs340 at hP hD
        generalize pm_rp pi kn (nI (S 9 1)) = pi341 at hP hD hC339
        generalize pm_rk kn (nI (S 9 1)) = kn342 at hP hD hC339
        generalize H1 = H at hP hS ⊢
        have hP : va_P D vwCl ((dd, .inl ((y 0), 36, .inl F)) :: pm_cl y L T Bs340 pi341 kn342 Gs sv U) H := hP
        have hD : va_D (pm_ad ((dd, .inl ((y 0), 36, .inl F)) :: pm_cl y L S Bs pi kn Gs sv U)) ((dd, .inl ((y 0), 36, .inl F)) :: pm_cl y L T Bs340 pi341 kn342 Gs sv U) := hD
        refine lv_iload hx hb dL_does_397 (lv_at hl 0 rfl) ?_
        refine kx_icmp_ne (tgt := 420) hx hb (by omega) (by omega) dL_does_399 (by decide) (fun c343 => by exfalso; omega) (fun c343 => ?_)
        refine lv_aload_n hx hb dL_does_402 rfl (lv_at hl 5 rfl) ?_
        refine lv_bipush (v := nI 11) hx hb dL_does_403 (by decide) ?_
        refine lv_iload hx hb dL_does_405 (lv_at hl 2 rfl) ?_
        refine kx_iadd hx hb dL_does_407 ?_
        refine lv_topi (fun x344 e345 => ?_)
        obtain rfl : x344 = nI 12 := e345.trans (rfl)
        have hPc : va_P D vwCl (pm_cl y L T Bs340 pi341 kn342 Gs sv U) H := pq_cut hP
        refine vp_callSi (W.runV (As := [.int (nI 12)]) (rest := []) ⟨hx, hb, hml, hown, hts⟩ (k_X3_count l D y L T Bs340 pi341 kn342 Gs sv U Bs Gs (nI 12) hIT.1) (cwV 1 hts gL_does_X3_count rfl rfl rfl hd_X3_count ⟨Nat.le_of_ble_eq_true rfl, Nat.le_of_ble_eq_true rfl⟩) ⟨pm_ron_blind, va_recv hK hPc (ci := 3) (q0 := 0) rfl rfl, pm_ron_pre hPc hK hN⟩ rfl rfl hl.1 rfl (lv_room (Nat.le_of_ble_eq_true rfl)) dL_does_408 ⟨Nat.le_of_ble_eq_true rfl, Nat.le_of_ble_eq_true rfl⟩) (fun r346 h347 => ?_)
        obtain rfl : r346 = nI (T 9 1) := h347.trans (pq_co12)
        have := hIT.1.set
        refine lv_iload hx hb dL_does_411 (lv_at hl 1 rfl) ?_
        refine kx_icmp_ne (tgt := 420) hx hb (by omega) (by omega) dL_does_413 (by decide) (fun c348 => by exfalso; omega) (fun c348 => ?_)
        refine lv_iconst (v := nI 1) hx hb dL_does_416 (by decide) ?_
        refine lv_goto (tgt := 421) hx hb dL_does_417 (by decide) ?_
        exact W.zret (ty := .boolean) hx hb hr rfl (fun t ht _ => ⟨⟨_, ((T, Bs340, pi341, kn342), F), rfl, ⟨rfl, hIT, hC339⟩, (by show va_P D vwCl ((dd, .inl ((y 0), 36, .inl F)) :: pm_cl y L T Bs340 pi341 kn342 Gs sv U) t.heap; rw [ht]; exact hP)⟩, hS.F ht⟩) hS.2.2 dL_does_421
      · skip
        refine lv_istore (lv' := [(10, .int (nI 2)), (5, .int (nI t3)), (4, .int (nI t)), (0, .ref (L 0 0)), (1, .ref dd), (2, .int xv), (3, .int xw)]) hx hb dL_does_320 hl (by decide) rfl (fun ls hl => ?_)
        refine lv_iload hx hb dL_does_322 (lv_at hl 0 rfl) ?_
        refine lv_if_ne (tgt := 337) hx hb dL_does_324 (by decide) (fun _ => ?_) (fun c349 => absurd c349 (by decide))
        refine lv_iload hx hb dL_does_337 (lv_at hl 0 rfl) ?_
        refine lv_iconst (v := nI 1) hx hb dL_does_339 (by decide) ?_
        refine lv_icmp_ne (tgt := 352) hx hb dL_does_340 (by decide) (fun _ => ?_) (fun c350 => absurd c350 (by decide))
        refine lv_iload hx hb dL_does_352 (lv_at hl 0 rfl) ?_
        refine lv_iconst (v := nI 2) hx hb dL_does_354 (by decide) ?_
        refine lv_icmp_ne (tgt := 369) hx hb dL_does_355 (by decide) (fun c351 => (c351 (by decide)).elim) (fun _ => ?_)
        refine lv_iconst (v := nI 1) hx hb dL_does_358 (by decide) ?_
        refine lv_iload_n hx hb dL_does_359 rfl (lv_at hl 6 rfl) ?_
        refine lv_bipush (v := nI 9) hx hb dL_does_360 (by decide) ?_
        refine vp_callSi (W.runS (As := [.int xw, .int (nI 9)]) (rest := [.int (nI 1)]) ⟨hx, hb, hml, hown, hts⟩ (k_L_low l xw 9 (by decide) (by decide)) (va_cwS 2 hts gL_does_L_low rfl rfl rfl hd_L_low ⟨Nat.le_of_ble_eq_true rfl, Nat.le_of_ble_eq_true rfl⟩) ⟨pm_no_blind, pm_no_pre⟩ rfl rfl hl.1 rfl (lv_room (Nat.le_of_ble_eq_true rfl)) dL_does_362 ⟨Nat.le_of_ble_eq_true rfl, Nat.le_of_ble_eq_true rfl⟩) (fun r352 h353 => ?_)
        obtain ⟨t354, ht355, rfl⟩ := h353
        refine kx_iadd hx hb dL_does_365 ?_
        refine lv_goto (tgt := 376) hx hb dL_does_366 (by decide) ?_
        refine lv_istore (lv' := [(11, .int (nI (1 + t354))), (10, .int (nI 2)), (5, .int (nI t3)), (4, .int (nI t)), (0, .ref (L 0 0)), (1, .ref dd), (2, .int xv), (3, .int xw)]) hx hb dL_does_376 hl (by decide) rfl (fun ls hl => ?_)
        refine lv_aload_n hx hb dL_does_378 rfl (lv_at hl 4 rfl) ?_
        refine lv_bipush (v := nI 11) hx hb dL_does_379 (by decide) ?_
        refine lv_iload hx hb dL_does_381 (lv_at hl 1 rfl) ?_
        refine kx_iadd hx hb dL_does_383 ?_
        refine lv_topi (fun x356 e357 => ?_)
        obtain rfl : x356 = nI 13 := e357.trans (rfl)
        have hPc : va_P D vwCl (pm_cl y L S Bs pi kn Gs sv U) s.heap := pq_cut hP
        refine vp_callSi (W.runV (As := [.int (nI 13)]) (rest := []) ⟨hx, hb, hml, hown, hts⟩ (k_X3_count l D y L S Bs pi kn Gs sv U Bs Gs (nI 13) hI.1) (cwV 1 hts gL_does_X3_count rfl rfl rfl hd_X3_count ⟨Nat.le_of_ble_eq_true rfl, Nat.le_of_ble_eq_true rfl⟩) ⟨pm_ron_blind, va_recv hK hPc (ci := 3) (q0 := 0) rfl rfl, pm_ron_pre hPc hK hN⟩ rfl rfl hl.1 rfl (lv_room (Nat.le_of_ble_eq_true rfl)) dL_does_384 ⟨Nat.le_of_ble_eq_true rfl, Nat.le_of_ble_eq_true rfl⟩) (fun r358 h359 => ?_)
        obtain rfl : r358 = nI (S 9 2) := h359.trans (pq_co13)
        have := hI.1.set
        refine lv_istore (lv' := [(12, .int (nI (S 9 2))), (11, .int (nI (1 + t354))), (10, .int (nI 2)), (5, .int (nI t3)), (4, .int (nI t)), (0, .ref (L 0 0)), (1, .ref dd), (2, .int xv), (3, .int xw)]) hx hb dL_does_387 hl (by decide) rfl (fun ls hl => ?_)
        refine lv_aload_n hx hb dL_does_389 rfl (lv_at hl 5 rfl) ?_
        refine lv_iload hx hb dL_does_390 (lv_at hl 2 rfl) ?_
        refine lv_iload hx hb dL_does_392 (lv_at hl 1 rfl) ?_
        obtain ⟨T, E, t9⟩ := pq_setE (S := S) (i := 2) (v := 1 + t354) (by decide) (show (1 : Nat) ≤ (1 + t354) by omega) (show (1 + t354) ≤ 9 by omega)
        have hIT : pq_I T := by have h8 := pq_set hI (nI 2) (nI (1 + t354)); rw [E] at h8; exact h8
        have hPc : va_P D vwCl (pm_cl y L S Bs pi kn Gs sv U) s.heap := pq_cut hP
        have hDc := pq_cutD hD
        refine va_calli (va_runV (As := [.int (nI 2), .int (nI (1 + t354))]) (rest := []) ⟨hx, hb, hml, hown, hts⟩ (k_X3_set l D y L S Bs pi kn Gs sv U (fun i => Bs (pi i)) Gs tl tm (nI 2) (nI (1 + t354)) (pq_CI hC) hI.1) (cwV 2 hts gL_does_X3_set rfl rfl rfl hd_X3_set ⟨Nat.le_of_ble_eq_true rfl, Nat.le_of_ble_eq_true rfl⟩) ⟨pm_wrs_blind, va_recv hK hPc (ci := 3) (q0 := 0) rfl rfl, pm_wrs_pre (H0 := s.heap) hPc hK hDc (fun _ h => h) hS hT⟩ rfl rfl hl.1 rfl (lv_room (Nat.le_of_ble_eq_true rfl)) dL_does_394 ⟨Nat.le_of_ble_eq_true rfl, Nat.le_of_ble_eq_true rfl⟩) hS (fun q _ h9 => pm_ad_all hDc q h9) (pm_ad_all hDc) (fun r360 u365 t361 H1 locs ht362 _ h366 hB363 _ hk364 hS => ?_)
        have hB363 : va_P D vwCl (pm_cl y L T (pm_ub Bs (pi kn) S) (pm_rp pi kn (nI (S 9 2))) (pm_rk kn (nI (S 9 2))) Gs sv U) H1 := by have h8 : va_P D vwCl (pm_cl y L (pm_aSet S (nI 2) (nI (1 + t354))).2 (pm_ub Bs (pi kn) S) (pm_rp pi kn (pm_aSet S (nI 2) (nI (1 + t354))).1) (pm_rk kn (pm_aSet S (nI 2) (nI (1 + t354))).1) Gs sv U) t361.heap := hB363; rw [E] at h8; rw [← ht362]; exact h8
        obtain rfl : r360 = nI (S 9 2) := h366.trans (by rw [E])
        obtain ⟨hP, hD⟩ := pq_mid (w' := pm_cl y L T (pm_ub Bs (pi kn) S) (pm_rp pi kn (nI (S 9 2))) (pm_rk kn (nI (S 9 2))) Gs sv U) hP hD hk364 hB363 (pm_cl_fst ..)
        have hC367 := pq_C_r hC (nI (S 9 2))
        generalize pm_ub Bs (pi kn) S = Bs368 at hP hD
        generalize pm_rp pi kn (nI (S 9 2)) = pi369 at hP hD hC367
        generalize pm_rk kn (nI (S 9 2)) = kn370 at hP hD hC367
        generalize H1 = H at hP hS ⊢
        have hP : va_P D vwCl ((dd, .inl ((y 0), 36, .inl F)) :: pm_cl y L T Bs368 pi369 kn370 Gs sv U) H := hP
        have hD : va_D (pm_ad ((dd, .inl ((y 0), 36, .inl F)) :: pm_cl y L S Bs pi kn Gs sv U)) ((dd, .inl ((y 0), 36, .inl F)) :: pm_cl y L T Bs368 pi369 kn370 Gs sv U) := hD
        refine lv_iload hx hb dL_does_397 (lv_at hl 0 rfl) ?_
        refine kx_icmp_ne (tgt := 420) hx hb (by omega) (by omega) dL_does_399 (by decide) (fun c371 => by exfalso; omega) (fun c371 => ?_)
        refine lv_aload_n hx hb dL_does_402 rfl (lv_at hl 5 rfl) ?_
        refine lv_bipush (v := nI 11) hx hb dL_does_403 (by decide) ?_
        refine lv_iload hx hb dL_does_405 (lv_at hl 2 rfl) ?_
        refine kx_iadd hx hb dL_does_407 ?_
        refine lv_topi (fun x372 e373 => ?_)
        obtain rfl : x372 = nI 13 := e373.trans (rfl)
        have hPc : va_P D vwCl (pm_cl y L T Bs368 pi369 kn370 Gs sv U) H := pq_cut hP
        refine vp_callSi (W.runV (As := [.int (nI 13)]) (rest := []) ⟨hx, hb, hml, hown, hts⟩ (k_X3_count l D y L T Bs368 pi369 kn370 Gs sv U Bs Gs (nI 13) hIT.1) (cwV 1 hts gL_does_X3_count rfl rfl rfl hd_X3_count ⟨Nat.le_of_ble_eq_true rfl, Nat.le_of_ble_eq_true rfl⟩) ⟨pm_ron_blind, va_recv hK hPc (ci := 3) (q0 := 0) rfl rfl, pm_ron_pre hPc hK hN⟩ rfl rfl hl.1 rfl (lv_room (Nat.le_of_ble_eq_true rfl)) dL_does_408 ⟨Nat.le_of_ble_eq_true rfl, Nat.le_of_ble_eq_true rfl⟩) (fun r374 h375 => ?_)
        obtain rfl : r374 = nI (T 9 2) := h375.trans (pq_co13)
        have := hIT.1.set
        refine lv_iload hx hb dL_does_411 (lv_at hl 1 rfl) ?_
        refine kx_icmp_ne (tgt := 420) hx hb (by omega) (by omega) dL_does_413 (by decide) (fun c376 => by exfalso; omega) (fun c376 => ?_)
        refine lv_iconst (v := nI 1) hx hb dL_does_416 (by decide) ?_
        refine lv_goto (tgt := 421) hx hb dL_does_417 (by decide) ?_
        exact W.zret (ty := .boolean) hx hb hr rfl (fun t ht _ => ⟨⟨_, ((T, Bs368, pi369, kn370), F), rfl, ⟨rfl, hIT, hC367⟩, (by show va_P D vwCl ((dd, .inl ((y 0), 36, .inl F)) :: pm_cl y L T Bs368 pi369 kn370 Gs sv U) t.heap; rw [ht]; exact hP)⟩, hS.F ht⟩) hS.2.2 dL_does_421
      · skip
        refine lv_istore (lv' := [(10, .int (nI 3)), (5, .int (nI t3)), (4, .int (nI t)), (0, .ref (L 0 0)), (1, .ref dd), (2, .int xv), (3, .int xw)]) hx hb dL_does_320 hl (by decide) rfl (fun ls hl => ?_)
        refine lv_iload hx hb dL_does_322 (lv_at hl 0 rfl) ?_
        refine lv_if_ne (tgt := 337) hx hb dL_does_324 (by decide) (fun _ => ?_) (fun c377 => absurd c377 (by decide))
        refine lv_iload hx hb dL_does_337 (lv_at hl 0 rfl) ?_
        refine lv_iconst (v := nI 1) hx hb dL_does_339 (by decide) ?_
        refine lv_icmp_ne (tgt := 352) hx hb dL_does_340 (by decide) (fun _ => ?_) (fun c378 => absurd c378 (by decide))
        refine lv_iload hx hb dL_does_352 (lv_at hl 0 rfl) ?_
        refine lv_iconst (v := nI 2) hx hb dL_does_354 (by decide) ?_
        refine lv_icmp_ne (tgt := 369) hx hb dL_does_355 (by decide) (fun _ => ?_) (fun c379 => absurd c379 (by decide))
        refine lv_iconst (v := nI 1) hx hb dL_does_369 (by decide) ?_
        refine lv_iload_n hx hb dL_does_370 rfl (lv_at hl 6 rfl) ?_
        refine lv_iconst (v := nI 5) hx hb dL_does_371 (by decide) ?_
        refine vp_callSi (W.runS (As := [.int xw, .int (nI 5)]) (rest := [.int (nI 1)]) ⟨hx, hb, hml, hown, hts⟩ (k_L_low l xw 5 (by decide) (by decide)) (va_cwS 2 hts gL_does_L_low rfl rfl rfl hd_L_low ⟨Nat.le_of_ble_eq_true rfl, Nat.le_of_ble_eq_true rfl⟩) ⟨pm_no_blind, pm_no_pre⟩ rfl rfl hl.1 rfl (lv_room (Nat.le_of_ble_eq_true rfl)) dL_does_372 ⟨Nat.le_of_ble_eq_true rfl, Nat.le_of_ble_eq_true rfl⟩) (fun r380 h381 => ?_)
        obtain ⟨t382, ht383, rfl⟩ := h381
        refine kx_iadd hx hb dL_does_375 ?_
        refine lv_istore (lv' := [(11, .int (nI (1 + t382))), (10, .int (nI 3)), (5, .int (nI t3)), (4, .int (nI t)), (0, .ref (L 0 0)), (1, .ref dd), (2, .int xv), (3, .int xw)]) hx hb dL_does_376 hl (by decide) rfl (fun ls hl => ?_)
        refine lv_aload_n hx hb dL_does_378 rfl (lv_at hl 4 rfl) ?_
        refine lv_bipush (v := nI 11) hx hb dL_does_379 (by decide) ?_
        refine lv_iload hx hb dL_does_381 (lv_at hl 1 rfl) ?_
        refine kx_iadd hx hb dL_does_383 ?_
        refine lv_topi (fun x384 e385 => ?_)
        obtain rfl : x384 = nI 14 := e385.trans (rfl)
        have hPc : va_P D vwCl (pm_cl y L S Bs pi kn Gs sv U) s.heap := pq_cut hP
        refine vp_callSi (W.runV (As := [.int (nI 14)]) (rest := []) ⟨hx, hb, hml, hown, hts⟩ (k_X3_count l D y L S Bs pi kn Gs sv U Bs Gs (nI 14) hI.1) (cwV 1 hts gL_does_X3_count rfl rfl rfl hd_X3_count ⟨Nat.le_of_ble_eq_true rfl, Nat.le_of_ble_eq_true rfl⟩) ⟨pm_ron_blind, va_recv hK hPc (ci := 3) (q0 := 0) rfl rfl, pm_ron_pre hPc hK hN⟩ rfl rfl hl.1 rfl (lv_room (Nat.le_of_ble_eq_true rfl)) dL_does_384 ⟨Nat.le_of_ble_eq_true rfl, Nat.le_of_ble_eq_true rfl⟩) (fun r386 h387 => ?_)
        obtain rfl : r386 = nI (S 9 3) := h387.trans (pq_co14)
        have := hI.1.set
        refine lv_istore (lv' := [(12, .int (nI (S 9 3))), (11, .int (nI (1 + t382))), (10, .int (nI 3)), (5, .int (nI t3)), (4, .int (nI t)), (0, .ref (L 0 0)), (1, .ref dd), (2, .int xv), (3, .int xw)]) hx hb dL_does_387 hl (by decide) rfl (fun ls hl => ?_)
        refine lv_aload_n hx hb dL_does_389 rfl (lv_at hl 5 rfl) ?_
        refine lv_iload hx hb dL_does_390 (lv_at hl 2 rfl) ?_
        refine lv_iload hx hb dL_does_392 (lv_at hl 1 rfl) ?_
        obtain ⟨T, E, t9⟩ := pq_setE (S := S) (i := 3) (v := 1 + t382) (by decide) (show (1 : Nat) ≤ (1 + t382) by omega) (show (1 + t382) ≤ 5 by omega)
        have hIT : pq_I T := by have h8 := pq_set hI (nI 3) (nI (1 + t382)); rw [E] at h8; exact h8
        have hPc : va_P D vwCl (pm_cl y L S Bs pi kn Gs sv U) s.heap := pq_cut hP
        have hDc := pq_cutD hD
        refine va_calli (va_runV (As := [.int (nI 3), .int (nI (1 + t382))]) (rest := []) ⟨hx, hb, hml, hown, hts⟩ (k_X3_set l D y L S Bs pi kn Gs sv U (fun i => Bs (pi i)) Gs tl tm (nI 3) (nI (1 + t382)) (pq_CI hC) hI.1) (cwV 2 hts gL_does_X3_set rfl rfl rfl hd_X3_set ⟨Nat.le_of_ble_eq_true rfl, Nat.le_of_ble_eq_true rfl⟩) ⟨pm_wrs_blind, va_recv hK hPc (ci := 3) (q0 := 0) rfl rfl, pm_wrs_pre (H0 := s.heap) hPc hK hDc (fun _ h => h) hS hT⟩ rfl rfl hl.1 rfl (lv_room (Nat.le_of_ble_eq_true rfl)) dL_does_394 ⟨Nat.le_of_ble_eq_true rfl, Nat.le_of_ble_eq_true rfl⟩) hS (fun q _ h9 => pm_ad_all hDc q h9) (pm_ad_all hDc) (fun r388 u393 t389 H1 locs ht390 _ h394 hB391 _ hk392 hS => ?_)
        have hB391 : va_P D vwCl (pm_cl y L T (pm_ub Bs (pi kn) S) (pm_rp pi kn (nI (S 9 3))) (pm_rk kn (nI (S 9 3))) Gs sv U) H1 := by have h8 : va_P D vwCl (pm_cl y L (pm_aSet S (nI 3) (nI (1 + t382))).2 (pm_ub Bs (pi kn) S) (pm_rp pi kn (pm_aSet S (nI 3) (nI (1 + t382))).1) (pm_rk kn (pm_aSet S (nI 3) (nI (1 + t382))).1) Gs sv U) t389.heap := hB391; rw [E] at h8; rw [← ht390]; exact h8
        obtain rfl : r388 = nI (S 9 3) := h394.trans (by rw [E])
        obtain ⟨hP, hD⟩ := pq_mid (w' := pm_cl y L T (pm_ub Bs (pi kn) S) (pm_rp pi kn (nI (S 9 3))) (pm_rk kn (nI (S 9 3))) Gs sv U) hP hD hk392 hB391 (pm_cl_fst ..)
        have hC395 := pq_C_r hC (nI (S 9 3))
        generalize pm_ub Bs (pi kn) S = Bs396 at hP hD
        generalize pm_rp pi kn (nI (S 9 3)) = pi397 at hP hD hC395
        generalize pm_rk kn (nI (S 9 3)) = kn398 at hP hD hC395
        generalize H1 = H at hP hS ⊢
        have hP : va_P D vwCl ((dd, .inl ((y 0), 36, .inl F)) :: pm_cl y L T Bs396 pi397 kn398 Gs sv U) H := hP
        have hD : va_D (pm_ad ((dd, .inl ((y 0), 36, .inl F)) :: pm_cl y L S Bs pi kn Gs sv U)) ((dd, .inl ((y 0), 36, .inl F)) :: pm_cl y L T Bs396 pi397 kn398 Gs sv U) := hD
        refine lv_iload hx hb dL_does_397 (lv_at hl 0 rfl) ?_
        refine kx_icmp_ne (tgt := 420) hx hb (by omega) (by omega) dL_does_399 (by decide) (fun c399 => by exfalso; omega) (fun c399 => ?_)
        refine lv_aload_n hx hb dL_does_402 rfl (lv_at hl 5 rfl) ?_
        refine lv_bipush (v := nI 11) hx hb dL_does_403 (by decide) ?_
        refine lv_iload hx hb dL_does_405 (lv_at hl 2 rfl) ?_
        refine kx_iadd hx hb dL_does_407 ?_
        refine lv_topi (fun x400 e401 => ?_)
        obtain rfl : x400 = nI 14 := e401.trans (rfl)
        have hPc : va_P D vwCl (pm_cl y L T Bs396 pi397 kn398 Gs sv U) H := pq_cut hP
        refine vp_callSi (W.runV (As := [.int (nI 14)]) (rest := []) ⟨hx, hb, hml, hown, hts⟩ (k_X3_count l D y L T Bs396 pi397 kn398 Gs sv U Bs Gs (nI 14) hIT.1) (cwV 1 hts gL_does_X3_count rfl rfl rfl hd_X3_count ⟨Nat.le_of_ble_eq_true rfl, Nat.le_of_ble_eq_true rfl⟩) ⟨pm_ron_blind, va_recv hK hPc (ci := 3) (q0 := 0) rfl rfl, pm_ron_pre hPc hK hN⟩ rfl rfl hl.1 rfl (lv_room (Nat.le_of_ble_eq_true rfl)) dL_does_408 ⟨Nat.le_of_ble_eq_true rfl, Nat.le_of_ble_eq_true rfl⟩) (fun r402 h403 => ?_)
        obtain rfl : r402 = nI (T 9 3) := h403.trans (pq_co14)
        have := hIT.1.set
        refine lv_iload hx hb dL_does_411 (lv_at hl 1 rfl) ?_
        refine kx_icmp_ne (tgt := 420) hx hb (by omega) (by omega) dL_does_413 (by decide) (fun c404 => by exfalso; omega) (fun c404 => ?_)
        refine lv_iconst (v := nI 1) hx hb dL_does_416 (by decide) ?_
        refine lv_goto (tgt := 421) hx hb dL_does_417 (by decide) ?_
        exact W.zret (ty := .boolean) hx hb hr rfl (fun t ht _ => ⟨⟨_, ((T, Bs396, pi397, kn398), F), rfl, ⟨rfl, hIT, hC395⟩, (by show va_P D vwCl ((dd, .inl ((y 0), 36, .inl F)) :: pm_cl y L T Bs396 pi397 kn398 Gs sv U) t.heap; rw [ht]; exact hP)⟩, hS.F ht⟩) hS.2.2 dL_does_421
    · skip
      refine lv_tableIn (off := 386) (tgt := 422) hx hb dL_does_36 (by decide) (by decide) (by decide) (by decide) ?_
      refine lv_aload_n hx hb dL_does_422 rfl (lv_at hl 2 rfl) ?_
      refine lv_iload hx hb dL_does_423 (lv_at hl 1 rfl) ?_
      have hPc : va_P D vwCl (pm_cl y L S Bs pi kn Gs sv U) s.heap := pq_cut hP
      have hDc := pq_cutD hD
      refine va_calli (va_runS (As := [.ref (L 0 0), .int (nI t)]) (rest := []) ⟨hx, hb, hml, hown, hts⟩ (k_L_isDecided l D y L S Bs pi kn Gs sv U t hI hC (by omega)) (va_cwS 2 hts gL_does_L_isDecided rfl rfl rfl hd_L_isDecided ⟨Nat.le_of_ble_eq_true rfl, Nat.le_of_ble_eq_true rfl⟩) ⟨pm_wrn_blind, pm_wrn_pre hPc hK hDc hN⟩ rfl rfl hl.1 rfl (lv_room (Nat.le_of_ble_eq_true rfl)) dL_does_425 ⟨Nat.le_of_ble_eq_true rfl, Nat.le_of_ble_eq_true rfl⟩) hS (fun q _ h9 => pm_ad_all hDc q h9) (pm_ad_all hDc) (fun r405 u410 t406 H1 locs ht407 _ h411 hB408 _ hk409 hS => ?_)
      obtain ⟨rfl, hI412, hC413⟩ := h411
      obtain ⟨hP, hD⟩ := pq_mid (w' := pm_cl y L u410.1 u410.2.1 u410.2.2.1 u410.2.2.2 Gs sv U) hP hD hk409 (by rw [← ht407]; exact hB408) (pm_cl_fst ..)
      generalize H1 = H at hP hS ⊢
      have hP : va_P D vwCl ((dd, .inl ((y 0), 36, .inl F)) :: pm_cl y L u410.1 u410.2.1 u410.2.2.1 u410.2.2.2 Gs sv U) H := hP
      have hD : va_D (pm_ad ((dd, .inl ((y 0), 36, .inl F)) :: pm_cl y L S Bs pi kn Gs sv U)) ((dd, .inl ((y 0), 36, .inl F)) :: pm_cl y L u410.1 u410.2.1 u410.2.2.1 u410.2.2.2 Gs sv U) := hD
      exact W.zret (ty := .boolean) hx hb hr rfl (fun t ht _ => ⟨⟨_, ((u410.1, u410.2.1, u410.2.2.1, u410.2.2.2), F), rfl, ⟨rfl, hI412, hC413⟩, (by show va_P D vwCl ((dd, .inl ((y 0), 36, .inl F)) :: pm_cl y L u410.1 u410.2.1 u410.2.2.1 u410.2.2.2 Gs sv U) t.heap; rw [ht]; exact hP)⟩, hS.F ht⟩) hS.2.2 dL_does_428
    · skip
      refine lv_tableOut (tgt := 429) hx hb dL_does_36 (pm_swout (n := 10) (by decide) (Or.inr (nI_le h11 (by omega)))) (by decide) ?_
      refine lv_iload_n hx hb dL_does_429 rfl (lv_at hl 5 rfl) ?_
      refine lv_iconst (v := nI 2) hx hb dL_does_430 (by decide) ?_
      refine lv_ishr hx hb dL_does_431 ?_
      refine lv_iconst (v := nI 3) hx hb dL_does_432 (by decide) ?_
      refine vp_callSi (W.runS (As := [.int (xw >>> ((nI 2) &&& 31)), .int (nI 3)]) (rest := []) ⟨hx, hb, hml, hown, hts⟩ (k_L_low l (xw >>> ((nI 2) &&& 31)) 3 (by decide) (by decide)) (va_cwS 2 hts gL_does_L_low rfl rfl rfl hd_L_low ⟨Nat.le_of_ble_eq_true rfl, Nat.le_of_ble_eq_true rfl⟩) ⟨pm_no_blind, pm_no_pre⟩ rfl rfl hl.1 rfl (lv_room (Nat.le_of_ble_eq_true rfl)) dL_does_433 ⟨Nat.le_of_ble_eq_true rfl, Nat.le_of_ble_eq_true rfl⟩) (fun r414 h415 => ?_)
      obtain ⟨t416, ht417, rfl⟩ := h415
      refine lv_istore (lv' := [(13, .int (nI t416)), (5, .int (nI t3)), (4, .int (nI t)), (0, .ref (L 0 0)), (1, .ref dd), (2, .int xv), (3, .int xw)]) hx hb dL_does_436 hl (by decide) rfl (fun ls hl => ?_)
      refine lv_aload_n hx hb dL_does_438 rfl (lv_at hl 3 rfl) ?_
      refine lv_iload hx hb dL_does_439 (lv_at hl 1 rfl) ?_
      refine lv_iload hx hb dL_does_441 (lv_at hl 2 rfl) ?_
      have hPc : va_P D vwCl (pm_cl y L S Bs pi kn Gs sv U) s.heap := pq_cut hP
      refine vp_callSi (W.runS (As := [.ref (L 0 0), .int (nI t3), .int (nI t)]) (rest := []) ⟨hx, hb, hml, hown, hts⟩ (k_L_mark l D y L S Bs pi kn Gs sv U t3 t hI (by omega) (by omega)) (va_cwS 3 hts gL_does_L_mark rfl rfl rfl hd_L_mark ⟨Nat.le_of_ble_eq_true rfl, Nat.le_of_ble_eq_true rfl⟩) ⟨pm_ro_blind, pm_ro_pre hPc hK⟩ rfl rfl hl.1 rfl (lv_room (Nat.le_of_ble_eq_true rfl)) dL_does_443 ⟨Nat.le_of_ble_eq_true rfl, Nat.le_of_ble_eq_true rfl⟩) (fun r418 h419 => ?_)
      obtain rfl : r418 = nI (pm_mk (S 4 t) t3) := h419
      have := pm_mk3 (hI.1.okm t (by omega)) (show t3 < 3 by omega)
      refine lv_istore (lv' := [(14, .int (nI (pm_mk (S 4 t) t3))), (13, .int (nI t416)), (5, .int (nI t3)), (4, .int (nI t)), (0, .ref (L 0 0)), (1, .ref dd), (2, .int xv), (3, .int xw)]) hx hb dL_does_446 hl (by decide) rfl (fun ls hl => ?_)
      refine lv_iload hx hb dL_does_448 (lv_at hl 1 rfl) ?_
      refine lv_iconst (v := nI 2) hx hb dL_does_450 (by decide) ?_
      refine kx_icmp_ne (tgt := 480) hx hb (by omega) (by decide) dL_does_451 (by decide) (fun c420 => ?_) (fun c420 => ?_)
      · skip
        refine lv_iconst (v := nI 0) hx hb dL_does_480 (by decide) ?_
        refine lv_istore (lv' := [(15, .int (nI 0)), (14, .int (nI (pm_mk (S 4 t) t3))), (13, .int (nI t416)), (5, .int (nI t3)), (4, .int (nI t)), (0, .ref (L 0 0)), (1, .ref dd), (2, .int xv), (3, .int xw)]) hx hb dL_does_481 hl (by decide) rfl (fun ls hl => ?_)
        refine lv_aload_n hx hb dL_does_483 rfl (lv_at hl 5 rfl) ?_
        refine lv_iload hx hb dL_does_484 (lv_at hl 3 rfl) ?_
        refine lv_iload hx hb dL_does_486 (lv_at hl 4 rfl) ?_
        refine lv_iload hx hb dL_does_488 (lv_at hl 2 rfl) ?_
        by_cases h0 : S 0 t = 0
        · obtain ⟨T, E, hT4, hT0a⟩ : ∃ T, pm_aMark S (nI t3) (nI t) (nI t416) = (nI (pm_mk (S 4 t) t3), T) ∧ T 4 t = pm_sm (S 4 t) t3 t416 ∧ (∀ j, T 0 j = S 0 j) := by
            rcases pq_mrk (S := S) (x := t3) (f := t) (c := t416) (by omega) (by omega) (by omega) h0 with ⟨_, _, _, _⟩ | ⟨_, T, E, h4, h0a, _⟩
            · exfalso; omega
            · exact ⟨T, E, h4, h0a⟩
          have hIT : pq_I T := by have h8 := pq_mark hI (nI t3) (nI t) (nI t416); rw [E] at h8; exact h8
          have h0T : T 0 t = 0 := (hT0a t).trans h0
          have hmT : pm_mk (T 4 t) t3 = t416 := by rw [hT4]; exact pq_smk (hI.1.okm t (by omega)) (by omega) (by omega)
          have hPc : va_P D vwCl (pm_cl y L S Bs pi kn Gs sv U) s.heap := pq_cut hP
          have hDc := pq_cutD hD
          refine va_calli (va_runV (As := [.int (nI t3), .int (nI t), .int (nI t416)]) (rest := []) ⟨hx, hb, hml, hown, hts⟩ (k_X3_mark l D y L S Bs pi kn Gs sv U (fun i => Bs (pi i)) Gs (nI t3) (nI t) (nI t416) (pq_CI hC) hI.1) (cwV 3 hts gL_does_X3_mark rfl rfl rfl hd_X3_mark ⟨Nat.le_of_ble_eq_true rfl, Nat.le_of_ble_eq_true rfl⟩) ⟨pm_wr_blind, va_recv hK hPc (ci := 3) (q0 := 0) rfl rfl, pm_wr_pre hPc hK hDc⟩ rfl rfl hl.1 rfl (lv_room (Nat.le_of_ble_eq_true rfl)) dL_does_490 ⟨Nat.le_of_ble_eq_true rfl, Nat.le_of_ble_eq_true rfl⟩) hS (fun q _ h9 => pm_ad_all hDc q h9) (pm_ad_all hDc) (fun r421 u426 t422 H1 locs ht423 _ h427 hB424 _ hk425 hS => ?_)
          have hB424 : va_P D vwCl (pm_cl y L T (pm_ub Bs (pi kn) S) (pm_rp pi kn (nI (pm_mk (S 4 t) t3))) (pm_rk kn (nI (pm_mk (S 4 t) t3))) Gs sv U) H1 := by have h8 : va_P D vwCl (pm_cl y L (pm_aMark S (nI t3) (nI t) (nI t416)).2 (pm_ub Bs (pi kn) S) (pm_rp pi kn (pm_aMark S (nI t3) (nI t) (nI t416)).1) (pm_rk kn (pm_aMark S (nI t3) (nI t) (nI t416)).1) Gs sv U) t422.heap := hB424; rw [E] at h8; rw [← ht423]; exact h8
          obtain rfl : r421 = nI (pm_mk (S 4 t) t3) := h427.trans (by rw [E])
          obtain ⟨hP, hD⟩ := pq_mid (w' := pm_cl y L T (pm_ub Bs (pi kn) S) (pm_rp pi kn (nI (pm_mk (S 4 t) t3))) (pm_rk kn (nI (pm_mk (S 4 t) t3))) Gs sv U) hP hD hk425 hB424 (pm_cl_fst ..)
          have hC428 := pq_C_r hC (nI (pm_mk (S 4 t) t3))
          generalize pm_ub Bs (pi kn) S = Bs429 at hP hD
          generalize pm_rp pi kn (nI (pm_mk (S 4 t) t3)) = pi430 at hP hD hC428
          generalize pm_rk kn (nI (pm_mk (S 4 t) t3)) = kn431 at hP hD hC428
          generalize H1 = H at hP hS ⊢
          have hP : va_P D vwCl ((dd, .inl ((y 0), 36, .inl F)) :: pm_cl y L T Bs429 pi430 kn431 Gs sv U) H := hP
          have hD : va_D (pm_ad ((dd, .inl ((y 0), 36, .inl F)) :: pm_cl y L S Bs pi kn Gs sv U)) ((dd, .inl ((y 0), 36, .inl F)) :: pm_cl y L T Bs429 pi430 kn431 Gs sv U) := hD
          refine lv_aload_n hx hb dL_does_493 rfl (lv_at hl 5 rfl) ?_
          refine lv_iload hx hb dL_does_494 (lv_at hl 4 rfl) ?_
          refine lv_iconst (v := nI 0) hx hb dL_does_496 (by decide) ?_
          have hPc : va_P D vwCl (pm_cl y L T Bs429 pi430 kn431 Gs sv U) H := pq_cut hP
          refine vp_callSi (W.runV (As := [.int (nI t), .int (nI 0)]) (rest := [.int (nI (pm_mk (S 4 t) t3))]) ⟨hx, hb, hml, hown, hts⟩ (k_X3_of l D y L T Bs429 pi430 kn431 Gs sv U Bs Gs (nI t) (nI 0) hIT.1) (cwV 2 hts gL_does_X3_of rfl rfl rfl hd_X3_of ⟨Nat.le_of_ble_eq_true rfl, Nat.le_of_ble_eq_true rfl⟩) ⟨pm_ro_blind, va_recv hK hPc (ci := 3) (q0 := 0) rfl rfl, pm_ro_pre hPc hK⟩ rfl rfl hl.1 rfl (lv_room (Nat.le_of_ble_eq_true rfl)) dL_does_497 ⟨Nat.le_of_ble_eq_true rfl, Nat.le_of_ble_eq_true rfl⟩) (fun r432 h433 => ?_)
          obtain rfl : r432 = nI (T 0 t) := h433.trans (pq_of0 (by omega))
          have := hIT.1.how t (by omega)
          refine kx_if_eq (tgt := 508) hx hb (by omega) dL_does_500 (by decide) (fun c434 => ?_) (fun c434 => by exfalso; omega)
          refine lv_iload hx hb dL_does_508 (lv_at hl 0 rfl) ?_
          refine lv_if_eq (tgt := 518) hx hb dL_does_510 (by decide) (fun _ => ?_) (fun c435 => (c435 (by decide)).elim)
          refine lv_iload hx hb dL_does_518 (lv_at hl 1 rfl) ?_
          refine kx_icmp_ne (tgt := 560) hx hb (by omega) (by omega) dL_does_520 (by decide) (fun c436 => by exfalso; omega) (fun c436 => ?_)
          refine lv_aload_n hx hb dL_does_523 rfl (lv_at hl 5 rfl) ?_
          refine lv_iload hx hb dL_does_524 (lv_at hl 4 rfl) ?_
          refine lv_iconst (v := nI 0) hx hb dL_does_526 (by decide) ?_
          have hPc : va_P D vwCl (pm_cl y L T Bs429 pi430 kn431 Gs sv U) H := pq_cut hP
          refine vp_callSi (W.runV (As := [.int (nI t), .int (nI 0)]) (rest := []) ⟨hx, hb, hml, hown, hts⟩ (k_X3_of l D y L T Bs429 pi430 kn431 Gs sv U Bs Gs (nI t) (nI 0) hIT.1) (cwV 2 hts gL_does_X3_of rfl rfl rfl hd_X3_of ⟨Nat.le_of_ble_eq_true rfl, Nat.le_of_ble_eq_true rfl⟩) ⟨pm_ro_blind, va_recv hK hPc (ci := 3) (q0 := 0) rfl rfl, pm_ro_pre hPc hK⟩ rfl rfl hl.1 rfl (lv_room (Nat.le_of_ble_eq_true rfl)) dL_does_527 ⟨Nat.le_of_ble_eq_true rfl, Nat.le_of_ble_eq_true rfl⟩) (fun r437 h438 => ?_)
          obtain rfl : r437 = nI (T 0 t) := h438.trans (pq_of0 (by omega))
          have := hIT.1.how t (by omega)
          refine kx_if_ne (tgt := 556) hx hb (by omega) dL_does_530 (by decide) (fun c439 => by exfalso; omega) (fun c439 => ?_)
          refine lv_aload_n hx hb dL_does_533 rfl (lv_at hl 5 rfl) ?_
          refine lv_iload hx hb dL_does_534 (lv_at hl 3 rfl) ?_
          refine lv_iload hx hb dL_does_536 (lv_at hl 4 rfl) ?_
          have hPc : va_P D vwCl (pm_cl y L T Bs429 pi430 kn431 Gs sv U) H := pq_cut hP
          refine vp_callSi (W.runS (As := [.ref (L 0 0), .int (nI t3), .int (nI t)]) (rest := []) ⟨hx, hb, hml, hown, hts⟩ (k_L_mark l D y L T Bs429 pi430 kn431 Gs sv U t3 t hIT (by omega) (by omega)) (va_cwS 3 hts gL_does_L_mark rfl rfl rfl hd_L_mark ⟨Nat.le_of_ble_eq_true rfl, Nat.le_of_ble_eq_true rfl⟩) ⟨pm_ro_blind, pm_ro_pre hPc hK⟩ rfl rfl hl.1 rfl (lv_room (Nat.le_of_ble_eq_true rfl)) dL_does_538 ⟨Nat.le_of_ble_eq_true rfl, Nat.le_of_ble_eq_true rfl⟩) (fun r440 h441 => ?_)
          obtain rfl : r440 = nI (pm_mk (T 4 t) t3) := h441
          have := pm_mk3 (hIT.1.okm t (by omega)) (show t3 < 3 by omega)
          refine lv_iload hx hb dL_does_541 (lv_at hl 0 rfl) ?_
          refine lv_if_eq (tgt := 551) hx hb dL_does_543 (by decide) (fun _ => ?_) (fun c442 => (c442 (by decide)).elim)
          refine lv_iload hx hb dL_does_551 (lv_at hl 2 rfl) ?_
          refine kx_icmp_ne (tgt := 560) hx hb (by omega) (by omega) dL_does_553 (by decide) (fun c443 => by exfalso; omega) (fun c443 => ?_)
          refine lv_iconst (v := nI 1) hx hb dL_does_556 (by decide) ?_
          refine lv_goto (tgt := 561) hx hb dL_does_557 (by decide) ?_
          exact W.zret (ty := .boolean) hx hb hr rfl (fun t ht _ => ⟨⟨_, ((T, Bs429, pi430, kn431), F), rfl, ⟨rfl, hIT, hC428⟩, (by show va_P D vwCl ((dd, .inl ((y 0), 36, .inl F)) :: pm_cl y L T Bs429 pi430 kn431 Gs sv U) t.heap; rw [ht]; exact hP)⟩, hS.F ht⟩) hS.2.2 dL_does_561
        · have E := pq_mrk5 (S := S) (x := t3) (f := t) (c := t416) (by omega) (by omega) (by omega) h0
          have hPc : va_P D vwCl (pm_cl y L S Bs pi kn Gs sv U) s.heap := pq_cut hP
          have hDc := pq_cutD hD
          refine va_calli (va_runV (As := [.int (nI t3), .int (nI t), .int (nI t416)]) (rest := []) ⟨hx, hb, hml, hown, hts⟩ (k_X3_mark l D y L S Bs pi kn Gs sv U (fun i => Bs (pi i)) Gs (nI t3) (nI t) (nI t416) (pq_CI hC) hI.1) (cwV 3 hts gL_does_X3_mark rfl rfl rfl hd_X3_mark ⟨Nat.le_of_ble_eq_true rfl, Nat.le_of_ble_eq_true rfl⟩) ⟨pm_wr_blind, va_recv hK hPc (ci := 3) (q0 := 0) rfl rfl, pm_wr_pre hPc hK hDc⟩ rfl rfl hl.1 rfl (lv_room (Nat.le_of_ble_eq_true rfl)) dL_does_490 ⟨Nat.le_of_ble_eq_true rfl, Nat.le_of_ble_eq_true rfl⟩) hS (fun q _ h9 => pm_ad_all hDc q h9) (pm_ad_all hDc) (fun r444 u449 t445 H1 locs ht446 _ h450 hB447 _ hk448 hS => ?_)
          have hB447 : va_P D vwCl (pm_cl y L S (pm_ub Bs (pi kn) S) (pm_rp pi kn (-5)) (pm_rk kn (-5)) Gs sv U) H1 := by have h8 : va_P D vwCl (pm_cl y L (pm_aMark S (nI t3) (nI t) (nI t416)).2 (pm_ub Bs (pi kn) S) (pm_rp pi kn (pm_aMark S (nI t3) (nI t) (nI t416)).1) (pm_rk kn (pm_aMark S (nI t3) (nI t) (nI t416)).1) Gs sv U) t445.heap := hB447; rw [E] at h8; rw [← ht446]; exact h8
          obtain rfl : r444 = -5 := h450.trans (by rw [E])
          obtain ⟨hP, hD⟩ := pq_mid (w' := pm_cl y L S (pm_ub Bs (pi kn) S) (pm_rp pi kn (-5)) (pm_rk kn (-5)) Gs sv U) hP hD hk448 hB447 (pm_cl_fst ..)
          have hC451 := pq_C_r hC (-5)
          generalize pm_ub Bs (pi kn) S = Bs452 at hP hD
          generalize pm_rp pi kn (-5) = pi453 at hP hD hC451
          generalize pm_rk kn (-5) = kn454 at hP hD hC451
          generalize H1 = H at hP hS ⊢
          have hP : va_P D vwCl ((dd, .inl ((y 0), 36, .inl F)) :: pm_cl y L S Bs452 pi453 kn454 Gs sv U) H := hP
          have hD : va_D (pm_ad ((dd, .inl ((y 0), 36, .inl F)) :: pm_cl y L S Bs pi kn Gs sv U)) ((dd, .inl ((y 0), 36, .inl F)) :: pm_cl y L S Bs452 pi453 kn454 Gs sv U) := hD
          refine lv_aload_n hx hb dL_does_493 rfl (lv_at hl 5 rfl) ?_
          refine lv_iload hx hb dL_does_494 (lv_at hl 4 rfl) ?_
          refine lv_iconst (v := nI 0) hx hb dL_does_496 (by decide) ?_
          have hPc : va_P D vwCl (pm_cl y L S Bs452 pi453 kn454 Gs sv U) H := pq_cut hP
          refine vp_callSi (W.runV (As := [.int (nI t), .int (nI 0)]) (rest := [.int (-5)]) ⟨hx, hb, hml, hown, hts⟩ (k_X3_of l D y L S Bs452 pi453 kn454 Gs sv U Bs Gs (nI t) (nI 0) hI.1) (cwV 2 hts gL_does_X3_of rfl rfl rfl hd_X3_of ⟨Nat.le_of_ble_eq_true rfl, Nat.le_of_ble_eq_true rfl⟩) ⟨pm_ro_blind, va_recv hK hPc (ci := 3) (q0 := 0) rfl rfl, pm_ro_pre hPc hK⟩ rfl rfl hl.1 rfl (lv_room (Nat.le_of_ble_eq_true rfl)) dL_does_497 ⟨Nat.le_of_ble_eq_true rfl, Nat.le_of_ble_eq_true rfl⟩) (fun r455 h456 => ?_)
          obtain rfl : r455 = nI (S 0 t) := h456.trans (pq_of0 (by omega))
          have := hI.1.how t (by omega)
          refine kx_if_eq (tgt := 508) hx hb (by omega) dL_does_500 (by decide) (fun c457 => by exfalso; omega) (fun c457 => ?_)
          refine lv_bipush (v := (-5)) hx hb dL_does_503 (by decide) ?_
          refine lv_goto (tgt := 520) hx hb dL_does_505 (by decide) ?_
          refine lv_icmp_ne (tgt := 560) hx hb dL_does_520 (by decide) (fun c458 => (c458 (by decide)).elim) (fun _ => ?_)
          refine lv_aload_n hx hb dL_does_523 rfl (lv_at hl 5 rfl) ?_
          refine lv_iload hx hb dL_does_524 (lv_at hl 4 rfl) ?_
          refine lv_iconst (v := nI 0) hx hb dL_does_526 (by decide) ?_
          have hPc : va_P D vwCl (pm_cl y L S Bs452 pi453 kn454 Gs sv U) H := pq_cut hP
          refine vp_callSi (W.runV (As := [.int (nI t), .int (nI 0)]) (rest := []) ⟨hx, hb, hml, hown, hts⟩ (k_X3_of l D y L S Bs452 pi453 kn454 Gs sv U Bs Gs (nI t) (nI 0) hI.1) (cwV 2 hts gL_does_X3_of rfl rfl rfl hd_X3_of ⟨Nat.le_of_ble_eq_true rfl, Nat.le_of_ble_eq_true rfl⟩) ⟨pm_ro_blind, va_recv hK hPc (ci := 3) (q0 := 0) rfl rfl, pm_ro_pre hPc hK⟩ rfl rfl hl.1 rfl (lv_room (Nat.le_of_ble_eq_true rfl)) dL_does_527 ⟨Nat.le_of_ble_eq_true rfl, Nat.le_of_ble_eq_true rfl⟩) (fun r459 h460 => ?_)
          obtain rfl : r459 = nI (S 0 t) := h460.trans (pq_of0 (by omega))
          have := hI.1.how t (by omega)
          refine kx_if_ne (tgt := 556) hx hb (by omega) dL_does_530 (by decide) (fun c461 => ?_) (fun c461 => by exfalso; omega)
          refine lv_iconst (v := nI 1) hx hb dL_does_556 (by decide) ?_
          refine lv_goto (tgt := 561) hx hb dL_does_557 (by decide) ?_
          exact W.zret (ty := .boolean) hx hb hr rfl (fun t ht _ => ⟨⟨_, ((S, Bs452, pi453, kn454), F), rfl, ⟨rfl, hI, hC451⟩, (by show va_P D vwCl ((dd, .inl ((y 0), 36, .inl F)) :: pm_cl y L S Bs452 pi453 kn454 Gs sv U) t.heap; rw [ht]; exact hP)⟩, hS.F ht⟩) hS.2.2 dL_does_561
      · skip
        refine lv_iload hx hb dL_does_454 (lv_at hl 0 rfl) ?_
        refine lv_iconst (v := nI 2) hx hb dL_does_456 (by decide) ?_
        refine kx_icmp_eq (tgt := 480) hx hb (by omega) (by decide) dL_does_457 (by decide) (fun c462 => ?_) (fun c462 => ?_)
        · skip
          refine lv_iconst (v := nI 0) hx hb dL_does_480 (by decide) ?_
          refine lv_istore (lv' := [(15, .int (nI 0)), (14, .int (nI (pm_mk (S 4 t) t3))), (13, .int (nI t416)), (5, .int (nI t3)), (4, .int (nI t)), (0, .ref (L 0 0)), (1, .ref dd), (2, .int xv), (3, .int xw)]) hx hb dL_does_481 hl (by decide) rfl (fun ls hl => ?_)
          refine lv_aload_n hx hb dL_does_483 rfl (lv_at hl 5 rfl) ?_
          refine lv_iload hx hb dL_does_484 (lv_at hl 3 rfl) ?_
          refine lv_iload hx hb dL_does_486 (lv_at hl 4 rfl) ?_
          refine lv_iload hx hb dL_does_488 (lv_at hl 2 rfl) ?_
          by_cases h0 : S 0 t = 0
          · obtain ⟨T, E, hT4, hT0a⟩ : ∃ T, pm_aMark S (nI t3) (nI t) (nI t416) = (nI (pm_mk (S 4 t) t3), T) ∧ T 4 t = pm_sm (S 4 t) t3 t416 ∧ (∀ j, T 0 j = S 0 j) := by
              rcases pq_mrk (S := S) (x := t3) (f := t) (c := t416) (by omega) (by omega) (by omega) h0 with ⟨_, _, _, _⟩ | ⟨_, T, E, h4, h0a, _⟩
              · exfalso; omega
              · exact ⟨T, E, h4, h0a⟩
            have hIT : pq_I T := by have h8 := pq_mark hI (nI t3) (nI t) (nI t416); rw [E] at h8; exact h8
            have h0T : T 0 t = 0 := (hT0a t).trans h0
            have hmT : pm_mk (T 4 t) t3 = t416 := by rw [hT4]; exact pq_smk (hI.1.okm t (by omega)) (by omega) (by omega)
            have hPc : va_P D vwCl (pm_cl y L S Bs pi kn Gs sv U) s.heap := pq_cut hP
            have hDc := pq_cutD hD
            refine va_calli (va_runV (As := [.int (nI t3), .int (nI t), .int (nI t416)]) (rest := []) ⟨hx, hb, hml, hown, hts⟩ (k_X3_mark l D y L S Bs pi kn Gs sv U (fun i => Bs (pi i)) Gs (nI t3) (nI t) (nI t416) (pq_CI hC) hI.1) (cwV 3 hts gL_does_X3_mark rfl rfl rfl hd_X3_mark ⟨Nat.le_of_ble_eq_true rfl, Nat.le_of_ble_eq_true rfl⟩) ⟨pm_wr_blind, va_recv hK hPc (ci := 3) (q0 := 0) rfl rfl, pm_wr_pre hPc hK hDc⟩ rfl rfl hl.1 rfl (lv_room (Nat.le_of_ble_eq_true rfl)) dL_does_490 ⟨Nat.le_of_ble_eq_true rfl, Nat.le_of_ble_eq_true rfl⟩) hS (fun q _ h9 => pm_ad_all hDc q h9) (pm_ad_all hDc) (fun r463 u468 t464 H1 locs ht465 _ h469 hB466 _ hk467 hS => ?_)
            have hB466 : va_P D vwCl (pm_cl y L T (pm_ub Bs (pi kn) S) (pm_rp pi kn (nI (pm_mk (S 4 t) t3))) (pm_rk kn (nI (pm_mk (S 4 t) t3))) Gs sv U) H1 := by have h8 : va_P D vwCl (pm_cl y L (pm_aMark S (nI t3) (nI t) (nI t416)).2 (pm_ub Bs (pi kn) S) (pm_rp pi kn (pm_aMark S (nI t3) (nI t) (nI t416)).1) (pm_rk kn (pm_aMark S (nI t3) (nI t) (nI t416)).1) Gs sv U) t464.heap := hB466; rw [E] at h8; rw [← ht465]; exact h8
            obtain rfl : r463 = nI (pm_mk (S 4 t) t3) := h469.trans (by rw [E])
            obtain ⟨hP, hD⟩ := pq_mid (w' := pm_cl y L T (pm_ub Bs (pi kn) S) (pm_rp pi kn (nI (pm_mk (S 4 t) t3))) (pm_rk kn (nI (pm_mk (S 4 t) t3))) Gs sv U) hP hD hk467 hB466 (pm_cl_fst ..)
            have hC470 := pq_C_r hC (nI (pm_mk (S 4 t) t3))
            generalize pm_ub Bs (pi kn) S = Bs471 at hP hD
            generalize pm_rp pi kn (nI (pm_mk (S 4 t) t3)) = pi472 at hP hD hC470
            generalize pm_rk kn (nI (pm_mk (S 4 t) t3)) = kn473 at hP hD hC470
            generalize H1 = H at hP hS ⊢
            have hP : va_P D vwCl ((dd, .inl ((y 0), 36, .inl F)) :: pm_cl y L T Bs471 pi472 kn473 Gs sv U) H := hP
            have hD : va_D (pm_ad ((dd, .inl ((y 0), 36, .inl F)) :: pm_cl y L S Bs pi kn Gs sv U)) ((dd, .inl ((y 0), 36, .inl F)) :: pm_cl y L T Bs471 pi472 kn473 Gs sv U) := hD
            refine lv_aload_n hx hb dL_does_493 rfl (lv_at hl 5 rfl) ?_
            refine lv_iload hx hb dL_does_494 (lv_at hl 4 rfl) ?_
            refine lv_iconst (v := nI 0) hx hb dL_does_496 (by decide) ?_
            have hPc : va_P D vwCl (pm_cl y L T Bs471 pi472 kn473 Gs sv U) H := pq_cut hP
            refine vp_callSi (W.runV (As := [.int (nI t), .int (nI 0)]) (rest := [.int (nI (pm_mk (S 4 t) t3))]) ⟨hx, hb, hml, hown, hts⟩ (k_X3_of l D y L T Bs471 pi472 kn473 Gs sv U Bs Gs (nI t) (nI 0) hIT.1) (cwV 2 hts gL_does_X3_of rfl rfl rfl hd_X3_of ⟨Nat.le_of_ble_eq_true rfl, Nat.le_of_ble_eq_true rfl⟩) ⟨pm_ro_blind, va_recv hK hPc (ci := 3) (q0 := 0) rfl rfl, pm_ro_pre hPc hK⟩ rfl rfl hl.1 rfl (lv_room (Nat.le_of_ble_eq_true rfl)) dL_does_497 ⟨Nat.le_of_ble_eq_true rfl, Nat.le_of_ble_eq_true rfl⟩) (fun r474 h475 => ?_)
            obtain rfl : r474 = nI (T 0 t) := h475.trans (pq_of0 (by omega))
            have := hIT.1.how t (by omega)
            refine kx_if_eq (tgt := 508) hx hb (by omega) dL_does_500 (by decide) (fun c476 => ?_) (fun c476 => by exfalso; omega)
            refine lv_iload hx hb dL_does_508 (lv_at hl 0 rfl) ?_
            refine lv_if_eq (tgt := 518) hx hb dL_does_510 (by decide) (fun _ => ?_) (fun c477 => (c477 (by decide)).elim)
            refine lv_iload hx hb dL_does_518 (lv_at hl 1 rfl) ?_
            refine kx_icmp_ne (tgt := 560) hx hb (by omega) (by omega) dL_does_520 (by decide) (fun c478 => by exfalso; omega) (fun c478 => ?_)
            refine lv_aload_n hx hb dL_does_523 rfl (lv_at hl 5 rfl) ?_
            refine lv_iload hx hb dL_does_524 (lv_at hl 4 rfl) ?_
            refine lv_iconst (v := nI 0) hx hb dL_does_526 (by decide) ?_
            have hPc : va_P D vwCl (pm_cl y L T Bs471 pi472 kn473 Gs sv U) H := pq_cut hP
            refine vp_callSi (W.runV (As := [.int (nI t), .int (nI 0)]) (rest := []) ⟨hx, hb, hml, hown, hts⟩ (k_X3_of l D y L T Bs471 pi472 kn473 Gs sv U Bs Gs (nI t) (nI 0) hIT.1) (cwV 2 hts gL_does_X3_of rfl rfl rfl hd_X3_of ⟨Nat.le_of_ble_eq_true rfl, Nat.le_of_ble_eq_true rfl⟩) ⟨pm_ro_blind, va_recv hK hPc (ci := 3) (q0 := 0) rfl rfl, pm_ro_pre hPc hK⟩ rfl rfl hl.1 rfl (lv_room (Nat.le_of_ble_eq_true rfl)) dL_does_527 ⟨Nat.le_of_ble_eq_true rfl, Nat.le_of_ble_eq_true rfl⟩) (fun r479 h480 => ?_)
            obtain rfl : r479 = nI (T 0 t) := h480.trans (pq_of0 (by omega))
            have := hIT.1.how t (by omega)
            refine kx_if_ne (tgt := 556) hx hb (by omega) dL_does_530 (by decide) (fun c481 => by exfalso; omega) (fun c481 => ?_)
            refine lv_aload_n hx hb dL_does_533 rfl (lv_at hl 5 rfl) ?_
            refine lv_iload hx hb dL_does_534 (lv_at hl 3 rfl) ?_
            refine lv_iload hx hb dL_does_536 (lv_at hl 4 rfl) ?_
            have hPc : va_P D vwCl (pm_cl y L T Bs471 pi472 kn473 Gs sv U) H := pq_cut hP
            refine vp_callSi (W.runS (As := [.ref (L 0 0), .int (nI t3), .int (nI t)]) (rest := []) ⟨hx, hb, hml, hown, hts⟩ (k_L_mark l D y L T Bs471 pi472 kn473 Gs sv U t3 t hIT (by omega) (by omega)) (va_cwS 3 hts gL_does_L_mark rfl rfl rfl hd_L_mark ⟨Nat.le_of_ble_eq_true rfl, Nat.le_of_ble_eq_true rfl⟩) ⟨pm_ro_blind, pm_ro_pre hPc hK⟩ rfl rfl hl.1 rfl (lv_room (Nat.le_of_ble_eq_true rfl)) dL_does_538 ⟨Nat.le_of_ble_eq_true rfl, Nat.le_of_ble_eq_true rfl⟩) (fun r482 h483 => ?_)
            obtain rfl : r482 = nI (pm_mk (T 4 t) t3) := h483
            have := pm_mk3 (hIT.1.okm t (by omega)) (show t3 < 3 by omega)
            refine lv_iload hx hb dL_does_541 (lv_at hl 0 rfl) ?_
            refine lv_if_eq (tgt := 551) hx hb dL_does_543 (by decide) (fun _ => ?_) (fun c484 => (c484 (by decide)).elim)
            refine lv_iload hx hb dL_does_551 (lv_at hl 2 rfl) ?_
            refine kx_icmp_ne (tgt := 560) hx hb (by omega) (by omega) dL_does_553 (by decide) (fun c485 => by exfalso; omega) (fun c485 => ?_)
            refine lv_iconst (v := nI 1) hx hb dL_does_556 (by decide) ?_
            refine lv_goto (tgt := 561) hx hb dL_does_557 (by decide) ?_
            exact W.zret (ty := .boolean) hx hb hr rfl (fun t ht _ => ⟨⟨_, ((T, Bs471, pi472, kn473), F), rfl, ⟨rfl, hIT, hC470⟩, (by show va_P D vwCl ((dd, .inl ((y 0), 36, .inl F)) :: pm_cl y L T Bs471 pi472 kn473 Gs sv U) t.heap; rw [ht]; exact hP)⟩, hS.F ht⟩) hS.2.2 dL_does_561
          · have E := pq_mrk5 (S := S) (x := t3) (f := t) (c := t416) (by omega) (by omega) (by omega) h0
            have hPc : va_P D vwCl (pm_cl y L S Bs pi kn Gs sv U) s.heap := pq_cut hP
            have hDc := pq_cutD hD
            refine va_calli (va_runV (As := [.int (nI t3), .int (nI t), .int (nI t416)]) (rest := []) ⟨hx, hb, hml, hown, hts⟩ (k_X3_mark l D y L S Bs pi kn Gs sv U (fun i => Bs (pi i)) Gs (nI t3) (nI t) (nI t416) (pq_CI hC) hI.1) (cwV 3 hts gL_does_X3_mark rfl rfl rfl hd_X3_mark ⟨Nat.le_of_ble_eq_true rfl, Nat.le_of_ble_eq_true rfl⟩) ⟨pm_wr_blind, va_recv hK hPc (ci := 3) (q0 := 0) rfl rfl, pm_wr_pre hPc hK hDc⟩ rfl rfl hl.1 rfl (lv_room (Nat.le_of_ble_eq_true rfl)) dL_does_490 ⟨Nat.le_of_ble_eq_true rfl, Nat.le_of_ble_eq_true rfl⟩) hS (fun q _ h9 => pm_ad_all hDc q h9) (pm_ad_all hDc) (fun r486 u491 t487 H1 locs ht488 _ h492 hB489 _ hk490 hS => ?_)
            have hB489 : va_P D vwCl (pm_cl y L S (pm_ub Bs (pi kn) S) (pm_rp pi kn (-5)) (pm_rk kn (-5)) Gs sv U) H1 := by have h8 : va_P D vwCl (pm_cl y L (pm_aMark S (nI t3) (nI t) (nI t416)).2 (pm_ub Bs (pi kn) S) (pm_rp pi kn (pm_aMark S (nI t3) (nI t) (nI t416)).1) (pm_rk kn (pm_aMark S (nI t3) (nI t) (nI t416)).1) Gs sv U) t487.heap := hB489; rw [E] at h8; rw [← ht488]; exact h8
            obtain rfl : r486 = -5 := h492.trans (by rw [E])
            obtain ⟨hP, hD⟩ := pq_mid (w' := pm_cl y L S (pm_ub Bs (pi kn) S) (pm_rp pi kn (-5)) (pm_rk kn (-5)) Gs sv U) hP hD hk490 hB489 (pm_cl_fst ..)
            have hC493 := pq_C_r hC (-5)
            generalize pm_ub Bs (pi kn) S = Bs494 at hP hD
            generalize pm_rp pi kn (-5) = pi495 at hP hD hC493
            generalize pm_rk kn (-5) = kn496 at hP hD hC493
            generalize H1 = H at hP hS ⊢
            have hP : va_P D vwCl ((dd, .inl ((y 0), 36, .inl F)) :: pm_cl y L S Bs494 pi495 kn496 Gs sv U) H := hP
            have hD : va_D (pm_ad ((dd, .inl ((y 0), 36, .inl F)) :: pm_cl y L S Bs pi kn Gs sv U)) ((dd, .inl ((y 0), 36, .inl F)) :: pm_cl y L S Bs494 pi495 kn496 Gs sv U) := hD
            refine lv_aload_n hx hb dL_does_493 rfl (lv_at hl 5 rfl) ?_
            refine lv_iload hx hb dL_does_494 (lv_at hl 4 rfl) ?_
            refine lv_iconst (v := nI 0) hx hb dL_does_496 (by decide) ?_
            have hPc : va_P D vwCl (pm_cl y L S Bs494 pi495 kn496 Gs sv U) H := pq_cut hP
            refine vp_callSi (W.runV (As := [.int (nI t), .int (nI 0)]) (rest := [.int (-5)]) ⟨hx, hb, hml, hown, hts⟩ (k_X3_of l D y L S Bs494 pi495 kn496 Gs sv U Bs Gs (nI t) (nI 0) hI.1) (cwV 2 hts gL_does_X3_of rfl rfl rfl hd_X3_of ⟨Nat.le_of_ble_eq_true rfl, Nat.le_of_ble_eq_true rfl⟩) ⟨pm_ro_blind, va_recv hK hPc (ci := 3) (q0 := 0) rfl rfl, pm_ro_pre hPc hK⟩ rfl rfl hl.1 rfl (lv_room (Nat.le_of_ble_eq_true rfl)) dL_does_497 ⟨Nat.le_of_ble_eq_true rfl, Nat.le_of_ble_eq_true rfl⟩) (fun r497 h498 => ?_)
            obtain rfl : r497 = nI (S 0 t) := h498.trans (pq_of0 (by omega))
            have := hI.1.how t (by omega)
            refine kx_if_eq (tgt := 508) hx hb (by omega) dL_does_500 (by decide) (fun c499 => by exfalso; omega) (fun c499 => ?_)
            refine lv_bipush (v := (-5)) hx hb dL_does_503 (by decide) ?_
            refine lv_goto (tgt := 520) hx hb dL_does_505 (by decide) ?_
            refine lv_icmp_ne (tgt := 560) hx hb dL_does_520 (by decide) (fun c500 => (c500 (by decide)).elim) (fun _ => ?_)
            refine lv_aload_n hx hb dL_does_523 rfl (lv_at hl 5 rfl) ?_
            refine lv_iload hx hb dL_does_524 (lv_at hl 4 rfl) ?_
            refine lv_iconst (v := nI 0) hx hb dL_does_526 (by decide) ?_
            have hPc : va_P D vwCl (pm_cl y L S Bs494 pi495 kn496 Gs sv U) H := pq_cut hP
            refine vp_callSi (W.runV (As := [.int (nI t), .int (nI 0)]) (rest := []) ⟨hx, hb, hml, hown, hts⟩ (k_X3_of l D y L S Bs494 pi495 kn496 Gs sv U Bs Gs (nI t) (nI 0) hI.1) (cwV 2 hts gL_does_X3_of rfl rfl rfl hd_X3_of ⟨Nat.le_of_ble_eq_true rfl, Nat.le_of_ble_eq_true rfl⟩) ⟨pm_ro_blind, va_recv hK hPc (ci := 3) (q0 := 0) rfl rfl, pm_ro_pre hPc hK⟩ rfl rfl hl.1 rfl (lv_room (Nat.le_of_ble_eq_true rfl)) dL_does_527 ⟨Nat.le_of_ble_eq_true rfl, Nat.le_of_ble_eq_true rfl⟩) (fun r501 h502 => ?_)
            obtain rfl : r501 = nI (S 0 t) := h502.trans (pq_of0 (by omega))
            have := hI.1.how t (by omega)
            refine kx_if_ne (tgt := 556) hx hb (by omega) dL_does_530 (by decide) (fun c503 => ?_) (fun c503 => by exfalso; omega)
            refine lv_iconst (v := nI 1) hx hb dL_does_556 (by decide) ?_
            refine lv_goto (tgt := 561) hx hb dL_does_557 (by decide) ?_
            exact W.zret (ty := .boolean) hx hb hr rfl (fun t ht _ => ⟨⟨_, ((S, Bs494, pi495, kn496), F), rfl, ⟨rfl, hI, hC493⟩, (by show va_P D vwCl ((dd, .inl ((y 0), 36, .inl F)) :: pm_cl y L S Bs494 pi495 kn496 Gs sv U) t.heap; rw [ht]; exact hP)⟩, hS.F ht⟩) hS.2.2 dL_does_561
        · skip
          refine lv_aload_n hx hb dL_does_460 rfl (lv_at hl 4 rfl) ?_
          refine lv_iload hx hb dL_does_461 (lv_at hl 2 rfl) ?_
          refine lv_iconst (v := nI 2) hx hb dL_does_463 (by decide) ?_
          have hPc : va_P D vwCl (pm_cl y L S Bs pi kn Gs sv U) s.heap := pq_cut hP
          refine vp_callSi (W.runV (As := [.int (nI t3), .int (nI 2)]) (rest := []) ⟨hx, hb, hml, hown, hts⟩ (k_X3_editor l D y L S Bs pi kn Gs sv U Bs Gs (nI t3) (nI 2) hI.1) (cwV 2 hts gL_does_X3_editor rfl rfl rfl hd_X3_editor ⟨Nat.le_of_ble_eq_true rfl, Nat.le_of_ble_eq_true rfl⟩) ⟨pm_ro_blind, va_recv hK hPc (ci := 3) (q0 := 0) rfl rfl, pm_ro_pre hPc hK⟩ rfl rfl hl.1 rfl (lv_room (Nat.le_of_ble_eq_true rfl)) dL_does_464 ⟨Nat.le_of_ble_eq_true rfl, Nat.le_of_ble_eq_true rfl⟩) (fun r504 h505 => ?_)
          obtain rfl : r504 = nI (pm_cnt S t3 2 30) := h505.trans (pq_ed2 (by omega))
          have := pm_cnt_le S t3 2 30
          refine lv_aload_n hx hb dL_does_467 rfl (lv_at hl 4 rfl) ?_
          refine lv_bipush (v := nI 12) hx hb dL_does_468 (by decide) ?_
          have hPc : va_P D vwCl (pm_cl y L S Bs pi kn Gs sv U) s.heap := pq_cut hP
          refine vp_callSi (W.runV (As := [.int (nI 12)]) (rest := [.int (nI (pm_cnt S t3 2 30))]) ⟨hx, hb, hml, hown, hts⟩ (k_X3_count l D y L S Bs pi kn Gs sv U Bs Gs (nI 12) hI.1) (cwV 1 hts gL_does_X3_count rfl rfl rfl hd_X3_count ⟨Nat.le_of_ble_eq_true rfl, Nat.le_of_ble_eq_true rfl⟩) ⟨pm_ron_blind, va_recv hK hPc (ci := 3) (q0 := 0) rfl rfl, pm_ron_pre hPc hK hN⟩ rfl rfl hl.1 rfl (lv_room (Nat.le_of_ble_eq_true rfl)) dL_does_470 ⟨Nat.le_of_ble_eq_true rfl, Nat.le_of_ble_eq_true rfl⟩) (fun r506 h507 => ?_)
          obtain rfl : r506 = nI (S 9 1) := h507.trans (pq_co12)
          have := hI.1.set
          refine kx_icmp_lt (tgt := 480) hx hb (by omega) (by omega) dL_does_473 (by decide) (fun c508 => ?_) (fun c508 => ?_)
          · skip
            refine lv_iconst (v := nI 0) hx hb dL_does_480 (by decide) ?_
            refine lv_istore (lv' := [(15, .int (nI 0)), (14, .int (nI (pm_mk (S 4 t) t3))), (13, .int (nI t416)), (5, .int (nI t3)), (4, .int (nI t)), (0, .ref (L 0 0)), (1, .ref dd), (2, .int xv), (3, .int xw)]) hx hb dL_does_481 hl (by decide) rfl (fun ls hl => ?_)
            refine lv_aload_n hx hb dL_does_483 rfl (lv_at hl 5 rfl) ?_
            refine lv_iload hx hb dL_does_484 (lv_at hl 3 rfl) ?_
            refine lv_iload hx hb dL_does_486 (lv_at hl 4 rfl) ?_
            refine lv_iload hx hb dL_does_488 (lv_at hl 2 rfl) ?_
            by_cases h0 : S 0 t = 0
            · obtain ⟨T, E, hT4, hT0a⟩ : ∃ T, pm_aMark S (nI t3) (nI t) (nI t416) = (nI (pm_mk (S 4 t) t3), T) ∧ T 4 t = pm_sm (S 4 t) t3 t416 ∧ (∀ j, T 0 j = S 0 j) := by
                rcases pq_mrk (S := S) (x := t3) (f := t) (c := t416) (by omega) (by omega) (by omega) h0 with ⟨_, _, _, _⟩ | ⟨_, T, E, h4, h0a, _⟩
                · exfalso; omega
                · exact ⟨T, E, h4, h0a⟩
              have hIT : pq_I T := by have h8 := pq_mark hI (nI t3) (nI t) (nI t416); rw [E] at h8; exact h8
              have h0T : T 0 t = 0 := (hT0a t).trans h0
              have hmT : pm_mk (T 4 t) t3 = t416 := by rw [hT4]; exact pq_smk (hI.1.okm t (by omega)) (by omega) (by omega)
              have hPc : va_P D vwCl (pm_cl y L S Bs pi kn Gs sv U) s.heap := pq_cut hP
              have hDc := pq_cutD hD
              refine va_calli (va_runV (As := [.int (nI t3), .int (nI t), .int (nI t416)]) (rest := []) ⟨hx, hb, hml, hown, hts⟩ (k_X3_mark l D y L S Bs pi kn Gs sv U (fun i => Bs (pi i)) Gs (nI t3) (nI t) (nI t416) (pq_CI hC) hI.1) (cwV 3 hts gL_does_X3_mark rfl rfl rfl hd_X3_mark ⟨Nat.le_of_ble_eq_true rfl, Nat.le_of_ble_eq_true rfl⟩) ⟨pm_wr_blind, va_recv hK hPc (ci := 3) (q0 := 0) rfl rfl, pm_wr_pre hPc hK hDc⟩ rfl rfl hl.1 rfl (lv_room (Nat.le_of_ble_eq_true rfl)) dL_does_490 ⟨Nat.le_of_ble_eq_true rfl, Nat.le_of_ble_eq_true rfl⟩) hS (fun q _ h9 => pm_ad_all hDc q h9) (pm_ad_all hDc) (fun r509 u514 t510 H1 locs ht511 _ h515 hB512 _ hk513 hS => ?_)
              have hB512 : va_P D vwCl (pm_cl y L T (pm_ub Bs (pi kn) S) (pm_rp pi kn (nI (pm_mk (S 4 t) t3))) (pm_rk kn (nI (pm_mk (S 4 t) t3))) Gs sv U) H1 := by have h8 : va_P D vwCl (pm_cl y L (pm_aMark S (nI t3) (nI t) (nI t416)).2 (pm_ub Bs (pi kn) S) (pm_rp pi kn (pm_aMark S (nI t3) (nI t) (nI t416)).1) (pm_rk kn (pm_aMark S (nI t3) (nI t) (nI t416)).1) Gs sv U) t510.heap := hB512; rw [E] at h8; rw [← ht511]; exact h8
              obtain rfl : r509 = nI (pm_mk (S 4 t) t3) := h515.trans (by rw [E])
              obtain ⟨hP, hD⟩ := pq_mid (w' := pm_cl y L T (pm_ub Bs (pi kn) S) (pm_rp pi kn (nI (pm_mk (S 4 t) t3))) (pm_rk kn (nI (pm_mk (S 4 t) t3))) Gs sv U) hP hD hk513 hB512 (pm_cl_fst ..)
              have hC516 := pq_C_r hC (nI (pm_mk (S 4 t) t3))
              generalize pm_ub Bs (pi kn) S = Bs517 at hP hD
              generalize pm_rp pi kn (nI (pm_mk (S 4 t) t3)) = pi518 at hP hD hC516
              generalize pm_rk kn (nI (pm_mk (S 4 t) t3)) = kn519 at hP hD hC516
              generalize H1 = H at hP hS ⊢
              have hP : va_P D vwCl ((dd, .inl ((y 0), 36, .inl F)) :: pm_cl y L T Bs517 pi518 kn519 Gs sv U) H := hP
              have hD : va_D (pm_ad ((dd, .inl ((y 0), 36, .inl F)) :: pm_cl y L S Bs pi kn Gs sv U)) ((dd, .inl ((y 0), 36, .inl F)) :: pm_cl y L T Bs517 pi518 kn519 Gs sv U) := hD
              refine lv_aload_n hx hb dL_does_493 rfl (lv_at hl 5 rfl) ?_
              refine lv_iload hx hb dL_does_494 (lv_at hl 4 rfl) ?_
              refine lv_iconst (v := nI 0) hx hb dL_does_496 (by decide) ?_
              have hPc : va_P D vwCl (pm_cl y L T Bs517 pi518 kn519 Gs sv U) H := pq_cut hP
              refine vp_callSi (W.runV (As := [.int (nI t), .int (nI 0)]) (rest := [.int (nI (pm_mk (S 4 t) t3))]) ⟨hx, hb, hml, hown, hts⟩ (k_X3_of l D y L T Bs517 pi518 kn519 Gs sv U Bs Gs (nI t) (nI 0) hIT.1) (cwV 2 hts gL_does_X3_of rfl rfl rfl hd_X3_of ⟨Nat.le_of_ble_eq_true rfl, Nat.le_of_ble_eq_true rfl⟩) ⟨pm_ro_blind, va_recv hK hPc (ci := 3) (q0 := 0) rfl rfl, pm_ro_pre hPc hK⟩ rfl rfl hl.1 rfl (lv_room (Nat.le_of_ble_eq_true rfl)) dL_does_497 ⟨Nat.le_of_ble_eq_true rfl, Nat.le_of_ble_eq_true rfl⟩) (fun r520 h521 => ?_)
              obtain rfl : r520 = nI (T 0 t) := h521.trans (pq_of0 (by omega))
              have := hIT.1.how t (by omega)
              refine kx_if_eq (tgt := 508) hx hb (by omega) dL_does_500 (by decide) (fun c522 => ?_) (fun c522 => by exfalso; omega)
              refine lv_iload hx hb dL_does_508 (lv_at hl 0 rfl) ?_
              refine lv_if_eq (tgt := 518) hx hb dL_does_510 (by decide) (fun _ => ?_) (fun c523 => (c523 (by decide)).elim)
              refine lv_iload hx hb dL_does_518 (lv_at hl 1 rfl) ?_
              refine kx_icmp_ne (tgt := 560) hx hb (by omega) (by omega) dL_does_520 (by decide) (fun c524 => by exfalso; omega) (fun c524 => ?_)
              refine lv_aload_n hx hb dL_does_523 rfl (lv_at hl 5 rfl) ?_
              refine lv_iload hx hb dL_does_524 (lv_at hl 4 rfl) ?_
              refine lv_iconst (v := nI 0) hx hb dL_does_526 (by decide) ?_
              have hPc : va_P D vwCl (pm_cl y L T Bs517 pi518 kn519 Gs sv U) H := pq_cut hP
              refine vp_callSi (W.runV (As := [.int (nI t), .int (nI 0)]) (rest := []) ⟨hx, hb, hml, hown, hts⟩ (k_X3_of l D y L T Bs517 pi518 kn519 Gs sv U Bs Gs (nI t) (nI 0) hIT.1) (cwV 2 hts gL_does_X3_of rfl rfl rfl hd_X3_of ⟨Nat.le_of_ble_eq_true rfl, Nat.le_of_ble_eq_true rfl⟩) ⟨pm_ro_blind, va_recv hK hPc (ci := 3) (q0 := 0) rfl rfl, pm_ro_pre hPc hK⟩ rfl rfl hl.1 rfl (lv_room (Nat.le_of_ble_eq_true rfl)) dL_does_527 ⟨Nat.le_of_ble_eq_true rfl, Nat.le_of_ble_eq_true rfl⟩) (fun r525 h526 => ?_)
              obtain rfl : r525 = nI (T 0 t) := h526.trans (pq_of0 (by omega))
              have := hIT.1.how t (by omega)
              refine kx_if_ne (tgt := 556) hx hb (by omega) dL_does_530 (by decide) (fun c527 => by exfalso; omega) (fun c527 => ?_)
              refine lv_aload_n hx hb dL_does_533 rfl (lv_at hl 5 rfl) ?_
              refine lv_iload hx hb dL_does_534 (lv_at hl 3 rfl) ?_
              refine lv_iload hx hb dL_does_536 (lv_at hl 4 rfl) ?_
              have hPc : va_P D vwCl (pm_cl y L T Bs517 pi518 kn519 Gs sv U) H := pq_cut hP
              refine vp_callSi (W.runS (As := [.ref (L 0 0), .int (nI t3), .int (nI t)]) (rest := []) ⟨hx, hb, hml, hown, hts⟩ (k_L_mark l D y L T Bs517 pi518 kn519 Gs sv U t3 t hIT (by omega) (by omega)) (va_cwS 3 hts gL_does_L_mark rfl rfl rfl hd_L_mark ⟨Nat.le_of_ble_eq_true rfl, Nat.le_of_ble_eq_true rfl⟩) ⟨pm_ro_blind, pm_ro_pre hPc hK⟩ rfl rfl hl.1 rfl (lv_room (Nat.le_of_ble_eq_true rfl)) dL_does_538 ⟨Nat.le_of_ble_eq_true rfl, Nat.le_of_ble_eq_true rfl⟩) (fun r528 h529 => ?_)
              obtain rfl : r528 = nI (pm_mk (T 4 t) t3) := h529
              have := pm_mk3 (hIT.1.okm t (by omega)) (show t3 < 3 by omega)
              refine lv_iload hx hb dL_does_541 (lv_at hl 0 rfl) ?_
              refine lv_if_eq (tgt := 551) hx hb dL_does_543 (by decide) (fun _ => ?_) (fun c530 => (c530 (by decide)).elim)
              refine lv_iload hx hb dL_does_551 (lv_at hl 2 rfl) ?_
              refine kx_icmp_ne (tgt := 560) hx hb (by omega) (by omega) dL_does_553 (by decide) (fun c531 => by exfalso; omega) (fun c531 => ?_)
              refine lv_iconst (v := nI 1) hx hb dL_does_556 (by decide) ?_
              refine lv_goto (tgt := 561) hx hb dL_does_557 (by decide) ?_
              exact W.zret (ty := .boolean) hx hb hr rfl (fun t ht _ => ⟨⟨_, ((T, Bs517, pi518, kn519), F), rfl, ⟨rfl, hIT, hC516⟩, (by show va_P D vwCl ((dd, .inl ((y 0), 36, .inl F)) :: pm_cl y L T Bs517 pi518 kn519 Gs sv U) t.heap; rw [ht]; exact hP)⟩, hS.F ht⟩) hS.2.2 dL_does_561
            · have E := pq_mrk5 (S := S) (x := t3) (f := t) (c := t416) (by omega) (by omega) (by omega) h0
              have hPc : va_P D vwCl (pm_cl y L S Bs pi kn Gs sv U) s.heap := pq_cut hP
              have hDc := pq_cutD hD
              refine va_calli (va_runV (As := [.int (nI t3), .int (nI t), .int (nI t416)]) (rest := []) ⟨hx, hb, hml, hown, hts⟩ (k_X3_mark l D y L S Bs pi kn Gs sv U (fun i => Bs (pi i)) Gs (nI t3) (nI t) (nI t416) (pq_CI hC) hI.1) (cwV 3 hts gL_does_X3_mark rfl rfl rfl hd_X3_mark ⟨Nat.le_of_ble_eq_true rfl, Nat.le_of_ble_eq_true rfl⟩) ⟨pm_wr_blind, va_recv hK hPc (ci := 3) (q0 := 0) rfl rfl, pm_wr_pre hPc hK hDc⟩ rfl rfl hl.1 rfl (lv_room (Nat.le_of_ble_eq_true rfl)) dL_does_490 ⟨Nat.le_of_ble_eq_true rfl, Nat.le_of_ble_eq_true rfl⟩) hS (fun q _ h9 => pm_ad_all hDc q h9) (pm_ad_all hDc) (fun r532 u537 t533 H1 locs ht534 _ h538 hB535 _ hk536 hS => ?_)
              have hB535 : va_P D vwCl (pm_cl y L S (pm_ub Bs (pi kn) S) (pm_rp pi kn (-5)) (pm_rk kn (-5)) Gs sv U) H1 := by have h8 : va_P D vwCl (pm_cl y L (pm_aMark S (nI t3) (nI t) (nI t416)).2 (pm_ub Bs (pi kn) S) (pm_rp pi kn (pm_aMark S (nI t3) (nI t) (nI t416)).1) (pm_rk kn (pm_aMark S (nI t3) (nI t) (nI t416)).1) Gs sv U) t533.heap := hB535; rw [E] at h8; rw [← ht534]; exact h8
              obtain rfl : r532 = -5 := h538.trans (by rw [E])
              obtain ⟨hP, hD⟩ := pq_mid (w' := pm_cl y L S (pm_ub Bs (pi kn) S) (pm_rp pi kn (-5)) (pm_rk kn (-5)) Gs sv U) hP hD hk536 hB535 (pm_cl_fst ..)
              have hC539 := pq_C_r hC (-5)
              generalize pm_ub Bs (pi kn) S = Bs540 at hP hD
              generalize pm_rp pi kn (-5) = pi541 at hP hD hC539
              generalize pm_rk kn (-5) = kn542 at hP hD hC539
              generalize H1 = H at hP hS ⊢
              have hP : va_P D vwCl ((dd, .inl ((y 0), 36, .inl F)) :: pm_cl y L S Bs540 pi541 kn542 Gs sv U) H := hP
              have hD : va_D (pm_ad ((dd, .inl ((y 0), 36, .inl F)) :: pm_cl y L S Bs pi kn Gs sv U)) ((dd, .inl ((y 0), 36, .inl F)) :: pm_cl y L S Bs540 pi541 kn542 Gs sv U) := hD
              refine lv_aload_n hx hb dL_does_493 rfl (lv_at hl 5 rfl) ?_
              refine lv_iload hx hb dL_does_494 (lv_at hl 4 rfl) ?_
              refine lv_iconst (v := nI 0) hx hb dL_does_496 (by decide) ?_
              have hPc : va_P D vwCl (pm_cl y L S Bs540 pi541 kn542 Gs sv U) H := pq_cut hP
              refine vp_callSi (W.runV (As := [.int (nI t), .int (nI 0)]) (rest := [.int (-5)]) ⟨hx, hb, hml, hown, hts⟩ (k_X3_of l D y L S Bs540 pi541 kn542 Gs sv U Bs Gs (nI t) (nI 0) hI.1) (cwV 2 hts gL_does_X3_of rfl rfl rfl hd_X3_of ⟨Nat.le_of_ble_eq_true rfl, Nat.le_of_ble_eq_true rfl⟩) ⟨pm_ro_blind, va_recv hK hPc (ci := 3) (q0 := 0) rfl rfl, pm_ro_pre hPc hK⟩ rfl rfl hl.1 rfl (lv_room (Nat.le_of_ble_eq_true rfl)) dL_does_497 ⟨Nat.le_of_ble_eq_true rfl, Nat.le_of_ble_eq_true rfl⟩) (fun r543 h544 => ?_)
              obtain rfl : r543 = nI (S 0 t) := h544.trans (pq_of0 (by omega))
              have := hI.1.how t (by omega)
              refine kx_if_eq (tgt := 508) hx hb (by omega) dL_does_500 (by decide) (fun c545 => by exfalso; omega) (fun c545 => ?_)
              refine lv_bipush (v := (-5)) hx hb dL_does_503 (by decide) ?_
              refine lv_goto (tgt := 520) hx hb dL_does_505 (by decide) ?_
              refine lv_icmp_ne (tgt := 560) hx hb dL_does_520 (by decide) (fun c546 => (c546 (by decide)).elim) (fun _ => ?_)
              refine lv_aload_n hx hb dL_does_523 rfl (lv_at hl 5 rfl) ?_
              refine lv_iload hx hb dL_does_524 (lv_at hl 4 rfl) ?_
              refine lv_iconst (v := nI 0) hx hb dL_does_526 (by decide) ?_
              have hPc : va_P D vwCl (pm_cl y L S Bs540 pi541 kn542 Gs sv U) H := pq_cut hP
              refine vp_callSi (W.runV (As := [.int (nI t), .int (nI 0)]) (rest := []) ⟨hx, hb, hml, hown, hts⟩ (k_X3_of l D y L S Bs540 pi541 kn542 Gs sv U Bs Gs (nI t) (nI 0) hI.1) (cwV 2 hts gL_does_X3_of rfl rfl rfl hd_X3_of ⟨Nat.le_of_ble_eq_true rfl, Nat.le_of_ble_eq_true rfl⟩) ⟨pm_ro_blind, va_recv hK hPc (ci := 3) (q0 := 0) rfl rfl, pm_ro_pre hPc hK⟩ rfl rfl hl.1 rfl (lv_room (Nat.le_of_ble_eq_true rfl)) dL_does_527 ⟨Nat.le_of_ble_eq_true rfl, Nat.le_of_ble_eq_true rfl⟩) (fun r547 h548 => ?_)
              obtain rfl : r547 = nI (S 0 t) := h548.trans (pq_of0 (by omega))
              have := hI.1.how t (by omega)
              refine kx_if_ne (tgt := 556) hx hb (by omega) dL_does_530 (by decide) (fun c549 => ?_) (fun c549 => by exfalso; omega)
              refine lv_iconst (v := nI 1) hx hb dL_does_556 (by decide) ?_
              refine lv_goto (tgt := 561) hx hb dL_does_557 (by decide) ?_
              exact W.zret (ty := .boolean) hx hb hr rfl (fun t ht _ => ⟨⟨_, ((S, Bs540, pi541, kn542), F), rfl, ⟨rfl, hI, hC539⟩, (by show va_P D vwCl ((dd, .inl ((y 0), 36, .inl F)) :: pm_cl y L S Bs540 pi541 kn542 Gs sv U) t.heap; rw [ht]; exact hP)⟩, hS.F ht⟩) hS.2.2 dL_does_561
          · skip
            refine lv_iconst (v := nI 1) hx hb dL_does_476 (by decide) ?_
            refine lv_goto (tgt := 481) hx hb dL_does_477 (by decide) ?_
            refine lv_istore (lv' := [(15, .int (nI 1)), (14, .int (nI (pm_mk (S 4 t) t3))), (13, .int (nI t416)), (5, .int (nI t3)), (4, .int (nI t)), (0, .ref (L 0 0)), (1, .ref dd), (2, .int xv), (3, .int xw)]) hx hb dL_does_481 hl (by decide) rfl (fun ls hl => ?_)
            refine lv_aload_n hx hb dL_does_483 rfl (lv_at hl 5 rfl) ?_
            refine lv_iload hx hb dL_does_484 (lv_at hl 3 rfl) ?_
            refine lv_iload hx hb dL_does_486 (lv_at hl 4 rfl) ?_
            refine lv_iload hx hb dL_does_488 (lv_at hl 2 rfl) ?_
            by_cases h0 : S 0 t = 0
            · have E : pm_aMark S (nI t3) (nI t) (nI t416) = (-4, S) := by
                rcases pq_mrk (S := S) (x := t3) (f := t) (c := t416) (by omega) (by omega) (by omega) h0 with ⟨_, _, _, E⟩ | ⟨hn, _⟩
                · exact E
                · exfalso; omega
              have hPc : va_P D vwCl (pm_cl y L S Bs pi kn Gs sv U) s.heap := pq_cut hP
              have hDc := pq_cutD hD
              refine va_calli (va_runV (As := [.int (nI t3), .int (nI t), .int (nI t416)]) (rest := []) ⟨hx, hb, hml, hown, hts⟩ (k_X3_mark l D y L S Bs pi kn Gs sv U (fun i => Bs (pi i)) Gs (nI t3) (nI t) (nI t416) (pq_CI hC) hI.1) (cwV 3 hts gL_does_X3_mark rfl rfl rfl hd_X3_mark ⟨Nat.le_of_ble_eq_true rfl, Nat.le_of_ble_eq_true rfl⟩) ⟨pm_wr_blind, va_recv hK hPc (ci := 3) (q0 := 0) rfl rfl, pm_wr_pre hPc hK hDc⟩ rfl rfl hl.1 rfl (lv_room (Nat.le_of_ble_eq_true rfl)) dL_does_490 ⟨Nat.le_of_ble_eq_true rfl, Nat.le_of_ble_eq_true rfl⟩) hS (fun q _ h9 => pm_ad_all hDc q h9) (pm_ad_all hDc) (fun r550 u555 t551 H1 locs ht552 _ h556 hB553 _ hk554 hS => ?_)
              have hB553 : va_P D vwCl (pm_cl y L S (pm_ub Bs (pi kn) S) (pm_rp pi kn (-4)) (pm_rk kn (-4)) Gs sv U) H1 := by have h8 : va_P D vwCl (pm_cl y L (pm_aMark S (nI t3) (nI t) (nI t416)).2 (pm_ub Bs (pi kn) S) (pm_rp pi kn (pm_aMark S (nI t3) (nI t) (nI t416)).1) (pm_rk kn (pm_aMark S (nI t3) (nI t) (nI t416)).1) Gs sv U) t551.heap := hB553; rw [E] at h8; rw [← ht552]; exact h8
              obtain rfl : r550 = -4 := h556.trans (by rw [E])
              obtain ⟨hP, hD⟩ := pq_mid (w' := pm_cl y L S (pm_ub Bs (pi kn) S) (pm_rp pi kn (-4)) (pm_rk kn (-4)) Gs sv U) hP hD hk554 hB553 (pm_cl_fst ..)
              have hC557 := pq_C_r hC (-4)
              generalize pm_ub Bs (pi kn) S = Bs558 at hP hD
              generalize pm_rp pi kn (-4) = pi559 at hP hD hC557
              generalize pm_rk kn (-4) = kn560 at hP hD hC557
              generalize H1 = H at hP hS ⊢
              have hP : va_P D vwCl ((dd, .inl ((y 0), 36, .inl F)) :: pm_cl y L S Bs558 pi559 kn560 Gs sv U) H := hP
              have hD : va_D (pm_ad ((dd, .inl ((y 0), 36, .inl F)) :: pm_cl y L S Bs pi kn Gs sv U)) ((dd, .inl ((y 0), 36, .inl F)) :: pm_cl y L S Bs558 pi559 kn560 Gs sv U) := hD
              refine lv_aload_n hx hb dL_does_493 rfl (lv_at hl 5 rfl) ?_
              refine lv_iload hx hb dL_does_494 (lv_at hl 4 rfl) ?_
              refine lv_iconst (v := nI 0) hx hb dL_does_496 (by decide) ?_
              have hPc : va_P D vwCl (pm_cl y L S Bs558 pi559 kn560 Gs sv U) H := pq_cut hP
              refine vp_callSi (W.runV (As := [.int (nI t), .int (nI 0)]) (rest := [.int (-4)]) ⟨hx, hb, hml, hown, hts⟩ (k_X3_of l D y L S Bs558 pi559 kn560 Gs sv U Bs Gs (nI t) (nI 0) hI.1) (cwV 2 hts gL_does_X3_of rfl rfl rfl hd_X3_of ⟨Nat.le_of_ble_eq_true rfl, Nat.le_of_ble_eq_true rfl⟩) ⟨pm_ro_blind, va_recv hK hPc (ci := 3) (q0 := 0) rfl rfl, pm_ro_pre hPc hK⟩ rfl rfl hl.1 rfl (lv_room (Nat.le_of_ble_eq_true rfl)) dL_does_497 ⟨Nat.le_of_ble_eq_true rfl, Nat.le_of_ble_eq_true rfl⟩) (fun r561 h562 => ?_)
              obtain rfl : r561 = nI (S 0 t) := h562.trans (pq_of0 (by omega))
              have := hI.1.how t (by omega)
              refine kx_if_eq (tgt := 508) hx hb (by omega) dL_does_500 (by decide) (fun c563 => ?_) (fun c563 => by exfalso; omega)
              refine lv_iload hx hb dL_does_508 (lv_at hl 0 rfl) ?_
              refine lv_if_eq (tgt := 518) hx hb dL_does_510 (by decide) (fun c564 => absurd c564 (by decide)) (fun _ => ?_)
              refine lv_bipush (v := (-4)) hx hb dL_does_513 (by decide) ?_
              refine lv_goto (tgt := 520) hx hb dL_does_515 (by decide) ?_
              refine lv_icmp_ne (tgt := 560) hx hb dL_does_520 (by decide) (fun c565 => (c565 (by decide)).elim) (fun _ => ?_)
              refine lv_aload_n hx hb dL_does_523 rfl (lv_at hl 5 rfl) ?_
              refine lv_iload hx hb dL_does_524 (lv_at hl 4 rfl) ?_
              refine lv_iconst (v := nI 0) hx hb dL_does_526 (by decide) ?_
              have hPc : va_P D vwCl (pm_cl y L S Bs558 pi559 kn560 Gs sv U) H := pq_cut hP
              refine vp_callSi (W.runV (As := [.int (nI t), .int (nI 0)]) (rest := []) ⟨hx, hb, hml, hown, hts⟩ (k_X3_of l D y L S Bs558 pi559 kn560 Gs sv U Bs Gs (nI t) (nI 0) hI.1) (cwV 2 hts gL_does_X3_of rfl rfl rfl hd_X3_of ⟨Nat.le_of_ble_eq_true rfl, Nat.le_of_ble_eq_true rfl⟩) ⟨pm_ro_blind, va_recv hK hPc (ci := 3) (q0 := 0) rfl rfl, pm_ro_pre hPc hK⟩ rfl rfl hl.1 rfl (lv_room (Nat.le_of_ble_eq_true rfl)) dL_does_527 ⟨Nat.le_of_ble_eq_true rfl, Nat.le_of_ble_eq_true rfl⟩) (fun r566 h567 => ?_)
              obtain rfl : r566 = nI (S 0 t) := h567.trans (pq_of0 (by omega))
              have := hI.1.how t (by omega)
              refine kx_if_ne (tgt := 556) hx hb (by omega) dL_does_530 (by decide) (fun c568 => by exfalso; omega) (fun c568 => ?_)
              refine lv_aload_n hx hb dL_does_533 rfl (lv_at hl 5 rfl) ?_
              refine lv_iload hx hb dL_does_534 (lv_at hl 3 rfl) ?_
              refine lv_iload hx hb dL_does_536 (lv_at hl 4 rfl) ?_
              have hPc : va_P D vwCl (pm_cl y L S Bs558 pi559 kn560 Gs sv U) H := pq_cut hP
              refine vp_callSi (W.runS (As := [.ref (L 0 0), .int (nI t3), .int (nI t)]) (rest := []) ⟨hx, hb, hml, hown, hts⟩ (k_L_mark l D y L S Bs558 pi559 kn560 Gs sv U t3 t hI (by omega) (by omega)) (va_cwS 3 hts gL_does_L_mark rfl rfl rfl hd_L_mark ⟨Nat.le_of_ble_eq_true rfl, Nat.le_of_ble_eq_true rfl⟩) ⟨pm_ro_blind, pm_ro_pre hPc hK⟩ rfl rfl hl.1 rfl (lv_room (Nat.le_of_ble_eq_true rfl)) dL_does_538 ⟨Nat.le_of_ble_eq_true rfl, Nat.le_of_ble_eq_true rfl⟩) (fun r569 h570 => ?_)
              obtain rfl : r569 = nI (pm_mk (S 4 t) t3) := h570
              have := pm_mk3 (hI.1.okm t (by omega)) (show t3 < 3 by omega)
              refine lv_iload hx hb dL_does_541 (lv_at hl 0 rfl) ?_
              refine lv_if_eq (tgt := 551) hx hb dL_does_543 (by decide) (fun c571 => absurd c571 (by decide)) (fun _ => ?_)
              refine lv_iload hx hb dL_does_546 (lv_at hl 1 rfl) ?_
              refine lv_goto (tgt := 553) hx hb dL_does_548 (by decide) ?_
              refine kx_icmp_ne (tgt := 560) hx hb (by omega) (by omega) dL_does_553 (by decide) (fun c572 => by exfalso; omega) (fun c572 => ?_)
              refine lv_iconst (v := nI 1) hx hb dL_does_556 (by decide) ?_
              refine lv_goto (tgt := 561) hx hb dL_does_557 (by decide) ?_
              exact W.zret (ty := .boolean) hx hb hr rfl (fun t ht _ => ⟨⟨_, ((S, Bs558, pi559, kn560), F), rfl, ⟨rfl, hI, hC557⟩, (by show va_P D vwCl ((dd, .inl ((y 0), 36, .inl F)) :: pm_cl y L S Bs558 pi559 kn560 Gs sv U) t.heap; rw [ht]; exact hP)⟩, hS.F ht⟩) hS.2.2 dL_does_561
            · have E := pq_mrk5 (S := S) (x := t3) (f := t) (c := t416) (by omega) (by omega) (by omega) h0
              have hPc : va_P D vwCl (pm_cl y L S Bs pi kn Gs sv U) s.heap := pq_cut hP
              have hDc := pq_cutD hD
              refine va_calli (va_runV (As := [.int (nI t3), .int (nI t), .int (nI t416)]) (rest := []) ⟨hx, hb, hml, hown, hts⟩ (k_X3_mark l D y L S Bs pi kn Gs sv U (fun i => Bs (pi i)) Gs (nI t3) (nI t) (nI t416) (pq_CI hC) hI.1) (cwV 3 hts gL_does_X3_mark rfl rfl rfl hd_X3_mark ⟨Nat.le_of_ble_eq_true rfl, Nat.le_of_ble_eq_true rfl⟩) ⟨pm_wr_blind, va_recv hK hPc (ci := 3) (q0 := 0) rfl rfl, pm_wr_pre hPc hK hDc⟩ rfl rfl hl.1 rfl (lv_room (Nat.le_of_ble_eq_true rfl)) dL_does_490 ⟨Nat.le_of_ble_eq_true rfl, Nat.le_of_ble_eq_true rfl⟩) hS (fun q _ h9 => pm_ad_all hDc q h9) (pm_ad_all hDc) (fun r573 u578 t574 H1 locs ht575 _ h579 hB576 _ hk577 hS => ?_)
              have hB576 : va_P D vwCl (pm_cl y L S (pm_ub Bs (pi kn) S) (pm_rp pi kn (-5)) (pm_rk kn (-5)) Gs sv U) H1 := by have h8 : va_P D vwCl (pm_cl y L (pm_aMark S (nI t3) (nI t) (nI t416)).2 (pm_ub Bs (pi kn) S) (pm_rp pi kn (pm_aMark S (nI t3) (nI t) (nI t416)).1) (pm_rk kn (pm_aMark S (nI t3) (nI t) (nI t416)).1) Gs sv U) t574.heap := hB576; rw [E] at h8; rw [← ht575]; exact h8
              obtain rfl : r573 = -5 := h579.trans (by rw [E])
              obtain ⟨hP, hD⟩ := pq_mid (w' := pm_cl y L S (pm_ub Bs (pi kn) S) (pm_rp pi kn (-5)) (pm_rk kn (-5)) Gs sv U) hP hD hk577 hB576 (pm_cl_fst ..)
              have hC580 := pq_C_r hC (-5)
              generalize pm_ub Bs (pi kn) S = Bs581 at hP hD
              generalize pm_rp pi kn (-5) = pi582 at hP hD hC580
              generalize pm_rk kn (-5) = kn583 at hP hD hC580
              generalize H1 = H at hP hS ⊢
              have hP : va_P D vwCl ((dd, .inl ((y 0), 36, .inl F)) :: pm_cl y L S Bs581 pi582 kn583 Gs sv U) H := hP
              have hD : va_D (pm_ad ((dd, .inl ((y 0), 36, .inl F)) :: pm_cl y L S Bs pi kn Gs sv U)) ((dd, .inl ((y 0), 36, .inl F)) :: pm_cl y L S Bs581 pi582 kn583 Gs sv U) := hD
              refine lv_aload_n hx hb dL_does_493 rfl (lv_at hl 5 rfl) ?_
              refine lv_iload hx hb dL_does_494 (lv_at hl 4 rfl) ?_
              refine lv_iconst (v := nI 0) hx hb dL_does_496 (by decide) ?_
              have hPc : va_P D vwCl (pm_cl y L S Bs581 pi582 kn583 Gs sv U) H := pq_cut hP
              refine vp_callSi (W.runV (As := [.int (nI t), .int (nI 0)]) (rest := [.int (-5)]) ⟨hx, hb, hml, hown, hts⟩ (k_X3_of l D y L S Bs581 pi582 kn583 Gs sv U Bs Gs (nI t) (nI 0) hI.1) (cwV 2 hts gL_does_X3_of rfl rfl rfl hd_X3_of ⟨Nat.le_of_ble_eq_true rfl, Nat.le_of_ble_eq_true rfl⟩) ⟨pm_ro_blind, va_recv hK hPc (ci := 3) (q0 := 0) rfl rfl, pm_ro_pre hPc hK⟩ rfl rfl hl.1 rfl (lv_room (Nat.le_of_ble_eq_true rfl)) dL_does_497 ⟨Nat.le_of_ble_eq_true rfl, Nat.le_of_ble_eq_true rfl⟩) (fun r584 h585 => ?_)
              obtain rfl : r584 = nI (S 0 t) := h585.trans (pq_of0 (by omega))
              have := hI.1.how t (by omega)
              refine kx_if_eq (tgt := 508) hx hb (by omega) dL_does_500 (by decide) (fun c586 => by exfalso; omega) (fun c586 => ?_)
              refine lv_bipush (v := (-5)) hx hb dL_does_503 (by decide) ?_
              refine lv_goto (tgt := 520) hx hb dL_does_505 (by decide) ?_
              refine lv_icmp_ne (tgt := 560) hx hb dL_does_520 (by decide) (fun c587 => (c587 (by decide)).elim) (fun _ => ?_)
              refine lv_aload_n hx hb dL_does_523 rfl (lv_at hl 5 rfl) ?_
              refine lv_iload hx hb dL_does_524 (lv_at hl 4 rfl) ?_
              refine lv_iconst (v := nI 0) hx hb dL_does_526 (by decide) ?_
              have hPc : va_P D vwCl (pm_cl y L S Bs581 pi582 kn583 Gs sv U) H := pq_cut hP
              refine vp_callSi (W.runV (As := [.int (nI t), .int (nI 0)]) (rest := []) ⟨hx, hb, hml, hown, hts⟩ (k_X3_of l D y L S Bs581 pi582 kn583 Gs sv U Bs Gs (nI t) (nI 0) hI.1) (cwV 2 hts gL_does_X3_of rfl rfl rfl hd_X3_of ⟨Nat.le_of_ble_eq_true rfl, Nat.le_of_ble_eq_true rfl⟩) ⟨pm_ro_blind, va_recv hK hPc (ci := 3) (q0 := 0) rfl rfl, pm_ro_pre hPc hK⟩ rfl rfl hl.1 rfl (lv_room (Nat.le_of_ble_eq_true rfl)) dL_does_527 ⟨Nat.le_of_ble_eq_true rfl, Nat.le_of_ble_eq_true rfl⟩) (fun r588 h589 => ?_)
              obtain rfl : r588 = nI (S 0 t) := h589.trans (pq_of0 (by omega))
              have := hI.1.how t (by omega)
              refine kx_if_ne (tgt := 556) hx hb (by omega) dL_does_530 (by decide) (fun c590 => ?_) (fun c590 => by exfalso; omega)
              refine lv_iconst (v := nI 1) hx hb dL_does_556 (by decide) ?_
              refine lv_goto (tgt := 561) hx hb dL_does_557 (by decide) ?_
              exact W.zret (ty := .boolean) hx hb hr rfl (fun t ht _ => ⟨⟨_, ((S, Bs581, pi582, kn583), F), rfl, ⟨rfl, hI, hC580⟩, (by show va_P D vwCl ((dd, .inl ((y 0), 36, .inl F)) :: pm_cl y L S Bs581 pi582 kn583 Gs sv U) t.heap; rw [ht]; exact hP)⟩, hS.F ht⟩) hS.2.2 dL_does_561
  refine lv_iload_n hx hb dL_does_0 rfl (lv_at hl 2 rfl) ?_
  refine lv_iconst (v := nI 5) hx hb dL_does_1 (by decide) ?_
  refine lv_ishr hx hb dL_does_2 ?_
  refine lv_iload_n hx hb dL_does_3 rfl (lv_at hl 2 rfl) ?_
  refine lv_iconst (v := nI 4) hx hb dL_does_4 (by decide) ?_
  refine lv_ishr hx hb dL_does_5 ?_
  refine lv_iconst (v := nI 1) hx hb dL_does_6 (by decide) ?_
  refine lv_iand hx hb dL_does_7 ?_
  refine lv_if_ne (tgt := 16) hx hb dL_does_8 (by decide) (fun c591 => ?_) (fun c591 => ?_)
  · skip
    refine lv_bipush (v := nI 8) hx hb dL_does_16 (by decide) ?_
    refine vp_callSi (W.runS (As := [.int (xv >>> ((nI 5) &&& 31)), .int (nI 8)]) (rest := []) ⟨hx, hb, hml, hown, hts⟩ (k_L_low l (xv >>> ((nI 5) &&& 31)) 8 (by decide) (by decide)) (va_cwS 2 hts gL_does_L_low rfl rfl rfl hd_L_low ⟨Nat.le_of_ble_eq_true rfl, Nat.le_of_ble_eq_true rfl⟩) ⟨pm_no_blind, pm_no_pre⟩ rfl rfl hl.1 rfl (lv_room (Nat.le_of_ble_eq_true rfl)) dL_does_18 ⟨Nat.le_of_ble_eq_true rfl, Nat.le_of_ble_eq_true rfl⟩) (fun r592 h593 => ?_)
    obtain ⟨t594, ht595, rfl⟩ := h593
    exact REST t594 ls (by omega) hl
  · skip
    refine lv_bipush (v := nI 30) hx hb dL_does_11 (by decide) ?_
    refine lv_goto (tgt := 18) hx hb dL_does_13 (by decide) ?_
    refine vp_callSi (W.runS (As := [.int (xv >>> ((nI 5) &&& 31)), .int (nI 30)]) (rest := []) ⟨hx, hb, hml, hown, hts⟩ (k_L_low l (xv >>> ((nI 5) &&& 31)) 30 (by decide) (by decide)) (va_cwS 2 hts gL_does_L_low rfl rfl rfl hd_L_low ⟨Nat.le_of_ble_eq_true rfl, Nat.le_of_ble_eq_true rfl⟩) ⟨pm_no_blind, pm_no_pre⟩ rfl rfl hl.1 rfl (lv_room (Nat.le_of_ble_eq_true rfl)) dL_does_18 ⟨Nat.le_of_ble_eq_true rfl, Nat.le_of_ble_eq_true rfl⟩) (fun r596 h597 => ?_)
    obtain ⟨t598, ht599, rfl⟩ := h597
    exact REST t598 ls (by omega) hl
