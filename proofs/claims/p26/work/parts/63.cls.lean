def pm_rp (pi : Nat → Nat) (kn : Nat) (r : Int32) : Nat → Nat := if r < 0 then pi else pm_kp pi kn
def pm_rk (kn : Nat) (r : Int32) : Nat := if r < 0 then kn else pm_kn kn
theorem pm_cutP {D : va_G} {cl : List vw_C} {X w Y : va_W} {H : Heap} (hP : va_P D cl (X ++ (w ++ Y)) H) : va_P D cl w H := pm_P_mem hP (fun z hz => List.mem_append_right _ (List.mem_append_left _ hz))
theorem pm_cutD {A : Nat → Prop} {X w Y : va_W} (hD : va_D A (X ++ (w ++ Y))) : va_D A w := by
  have h := (pm_D_nd.mp hD).1
  rw [List.map_append, List.map_append, List.nodup_append, List.nodup_append] at h
  exact pm_D_sub hD h.2.1.1 (fun z hz => ⟨z, List.mem_append_right _ (List.mem_append_left _ hz), rfl⟩)

set_option maxHeartbeats 4000000 in
set_option maxRecDepth 100000 in
theorem k_X3_recorded (l : Launch) (D : va_G) (y : Nat → ClassId) (L : Nat → Nat → Nat) (S : Nat → Nat → Nat) (Bs : Nat → Nat → Nat → Nat) (pi : Nat → Nat) (kn : Nat) (Gs : Nat → Nat → Nat → Nat) (sv : Nat → Nat) (U : pm_PT) (Hs Sl : Nat → Nat → Nat → Nat) (xr : Int32) (hC : pm_CI Bs pi kn Gs sv Hs Sl) : Met l yX3_recorded wsX3_recorded ({ frames := 1, cells := 0, slots := 0, locals := 22 } : Room) (pm_wr D (pm_ty y) [.ref (L 0 0), .int xr] (pm_cl y L S Bs pi kn Gs sv U)) (pm_Qi D (fun (r : Int32) (_ : Unit) => r = xr) (fun (_ : Unit) => pm_cl y L S Bs (pm_rp pi kn xr) (pm_rk kn xr) Gs sv U) (pm_cl y L S Bs pi kn Gs sv U)) 0 0 (pm_ad (pm_cl y L S Bs pi kn Gs sv U)) := by
  refine Met.ofW (cc := cX3_recorded) (maxL := 2) (ret := (some .int)) (by decide) rfl ?_
  intro p e s m args below meth c s₁ B hml hpre
  obtain ⟨rfl, hP, hK, hD0⟩ := hpre
  have hx := B.exec
  have hb := B.bytes
  have hr := B.returns
  have hts := atoms_spec (ws := wsX3_recorded) B.pre
  have hown : s.vm.findClass RX3 = some m.cls := findClass_of_methodNamed B.named
  have hlocks := B.notSynchronized
  have hin3 : ∀ w ∈ u_ws RX3 TX3 5, w ∈ wsX3_recorded := fun w h => List.mem_cons_of_mem _ (List.mem_append_left _ (List.mem_append_right _ h))
  have hin0 : ∀ w ∈ u_ws RX0 TX0 2, w ∈ wsX3_recorded := fun w h => List.mem_cons_of_mem _ (List.mem_append_right _ h)
  have hD := pm_ad_self hD0
  have hS : va_S (pm_ad (pm_cl y L S Bs pi kn Gs sv U)) s.heap s.heap [] := va_S.rf
  have hP : va_P D vwCl (pm_cl y L S Bs pi kn Gs sv U) s.heap := hP
  have hl := lv_entry ([.ref (L 0 0), .int xr]) (n := 2) (Nat.le_of_ble_eq_true rfl)
  rw [lg_entry_eq]
  generalize (lg_sl ([.ref (L 0 0), .int xr]) ++ List.replicate (2 - (lg_sl ([.ref (L 0 0), .int xr])).length) Slot.unset).toArray = ls at hl ⊢
  have hl : lv_has ls 2 [(0, .ref (L 0 0)), (1, .int xr)] := hl
  refine lv_iload_n hx hb dX3_recorded_0 rfl (lv_at hl 1 rfl) ?_
  refine lv_if_lt (tgt := 11) hx hb dX3_recorded_1 (by decide) (fun c1 => ?_) (fun c1 => ?_)
  · skip
    refine lv_iload_n hx hb dX3_recorded_11 rfl (lv_at hl 1 rfl) ?_
    have E1 : pm_rp pi kn xr = pi := if_pos (by assumption)
    have E2 : pm_rk kn xr = kn := if_pos (by assumption)
    exact W.iret hx hb hr (fun t ht _ => ⟨⟨_, (), rfl, rfl, (by show va_P D vwCl (pm_cl y L S Bs (pm_rp pi kn xr) (pm_rk kn xr) Gs sv U) t.heap; rw [ht]; exact (by rw [E1, E2]; exact hP))⟩, hS.F ht⟩) hS.2.2 dX3_recorded_12
  · skip
    refine lv_aload_n hx hb dX3_recorded_4 rfl (lv_at hl 0 rfl) ?_
    refine va_get (D := D) (ci := 3) (v := .ref (L 1 0)) (C := RX3) (T := TX3) (N := 5) hx hb hts hin3 hown hK hP 0 rfl rfl 1 (by decide) (hts (.fieldLink RX3 19 "ProofMarks" "history" "LProofMarks$History;") (List.mem_of_getElem? (i := 1) rfl)) (fun _ h9 => h9) rfl dX3_recorded_5 ?_
    rw [pm_cl_h] at hP hD
    have hPc := pm_cutP hP
    have hDc := pm_cutD hD
    refine va_callv (va_runV (As := []) (rest := []) ⟨hx, hb, hml, hown, hts⟩ (k_X0_keep l D y (L 1) (pm_bL L) Bs pi kn hC.1 hC.2.2.1) (cwV 0 hts gX3_recorded_X0_keep rfl rfl rfl hd_X0_keep ⟨Nat.le_of_ble_eq_true rfl, Nat.le_of_ble_eq_true rfl⟩) ⟨pm_wr_blind, va_recv hK hPc (ci := 0) (q0 := 0) rfl rfl, pm_wr_pre hPc hK hDc⟩ rfl rfl hl.1 rfl (lv_room (Nat.le_of_ble_eq_true rfl)) dX3_recorded_8 ⟨Nat.le_of_ble_eq_true rfl, Nat.le_of_ble_eq_true rfl⟩) hS (fun q _ h9 => pm_ad_all hDc q h9) (pm_ad_all hDc) (fun u9 t9 H1 locs ht9 _ h9 hB9 _ hk9 hS => ?_)
    obtain ⟨hP, hD⟩ := pm_mid (w' := pm_cH y L Bs (pm_kp pi kn) (pm_kn kn)) hP hD hk9 (by rw [← ht9]; exact hB9) (by unfold pm_cH pm_hi; simp only [List.map_append]; rfl)
    have hP : va_P D vwCl (pm_cl y L S Bs (pm_kp pi kn) (pm_kn kn) Gs sv U) H1 := hP
    have hD : va_D _ (pm_cl y L S Bs (pm_kp pi kn) (pm_kn kn) Gs sv U) := hD
    refine lv_iload_n hx hb dX3_recorded_11 rfl (lv_at hl 1 rfl) ?_
    have E1 : pm_rp pi kn xr = pm_kp pi kn := if_neg (by assumption)
    have E2 : pm_rk kn xr = pm_kn kn := if_neg (by assumption)
    exact W.iret hx hb hr (fun t ht _ => ⟨⟨_, (), rfl, rfl, (by show va_P D vwCl (pm_cl y L S Bs (pm_rp pi kn xr) (pm_rk kn xr) Gs sv U) t.heap; rw [ht]; exact (by rw [E1, E2]; exact hP))⟩, hS.F ht⟩) hS.2.2 dX3_recorded_12

