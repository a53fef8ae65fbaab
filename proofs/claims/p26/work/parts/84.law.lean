theorem pq_I0 : pq_I pm_S0 := by
  refine ⟨?_, fun j hj => ⟨fun z => ?_, fun _ => rfl⟩⟩
  · refine pm_Inv.of ?_ ?_ ?_ ?_ ?_ ?_ ?_ ?_ ?_ ?_ ?_ <;> decide
  · have h0 : pm_S0 0 j = 0 := rfl
    omega
theorem pq_C0 : pq_C (fun j => j) 0 := ⟨fun _ h => h, fun _ _ _ _ h => h, by decide⟩
/-- the goal at a place of the law's loop -/
def pq_Go (p : Program) (l : Launch) (e : Env) (s : State) (m : MethodId) (below : List Frame) (meth : Method) (c : Code) (D : va_G) (y : Nat → ClassId) (b : Nat) (L : Nat → Nat → Nat) (dd : Nat) (Gs : Nat → Nat → Nat → Nat) (sv : Nat → Nat) (U : pm_PT) (i pc : Nat) : Prop := ∀ (S : Nat → Nat → Nat) (Bs : Nat → Nat → Nat → Nat) (pi : Nat → Nat) (kn : Nat) (Zf : Nat → Int32) (H : Heap) (locs : List Loc) (ls : Array Slot), pq_I S → pq_C pi kn → va_P D vwCl ((dd, .inl (y 0, 36, .inl Zf)) :: pm_cl y L S Bs pi kn Gs sv U) H → va_D (fun q : Nat => s.heap.size ≤ q) ((dd, .inl (y 0, 36, .inl Zf)) :: pm_cl y L S Bs pi kn Gs sv U) → va_S (fun q : Nat => s.heap.size ≤ q) s.heap H locs → lv_has ls 4 [(0, .ref b), (1, .ref (L 0 0)), (2, .ref dd), (3, .int (nI i))] → W p l e room_1 s m #[Value.ref b] below meth c H locs (139 + i) (2296 + 4 * i) (lw_Z below #[Value.ref b] s) (F0 m pc ls [])

theorem pq_e1 (S : Nat → Nat → Nat) : pm_aMark S (nI 3) (nI 0) (nI 1) = (-1, S) := by
  simp only [pm_aMark, pm_ix_out (show (nI 3 < 0 ∨ nI 3 ≤ nI 3) by decide)]
theorem pq_e2 (S : Nat → Nat → Nat) : pm_aMark S (nI 0) (nI 30) (nI 1) = (-1, S) := by
  simp only [pm_aMark, pm_ix_in (show (0 : Nat) < 3 by decide) (show (3 : Nat) < 2 ^ 31 by decide), pm_ix_out (show (nI 30 < 0 ∨ nI 30 ≤ nI 30) by decide)]
theorem pq_e3 (S : Nat → Nat → Nat) : pm_aMark S (nI 0) (nI 0) (nI 3) = (-2, S) := by
  simp only [pm_aMark, pm_ix_in (show (0 : Nat) < 3 by decide) (show (3 : Nat) < 2 ^ 31 by decide), pm_ix_in (show (0 : Nat) < 30 by decide) (show (30 : Nat) < 2 ^ 31 by decide), pm_ix_out (show (nI 3 < 0 ∨ nI 3 ≤ nI 3) by decide)]
theorem pq_e4 (S : Nat → Nat → Nat) : pm_aPrint S (nI 0) (nI 4) = (-2, S) := by
  simp only [pm_aPrint, pm_ix_in (show (0 : Nat) < 30 by decide) (show (30 : Nat) < 2 ^ 31 by decide), pm_ix_out (show (nI 4 < 0 ∨ nI 4 ≤ nI 4) by decide)]
theorem pq_e5 (S : Nat → Nat → Nat) : pm_aBuy S (nI 100) = (-2, S) := by
  simp only [pm_aBuy, pm_ix_out (show (nI 100 < 0 ∨ nI 100 ≤ nI 100) by decide)]
theorem pq_e6 (S : Nat → Nat → Nat) : pm_aSet S (nI 4) (nI 1) = (-2, S) := by
  simp only [pm_aSet, pm_ix_out (show (nI 4 < 0 ∨ nI 4 ≤ nI 4) by decide)]
theorem pq_e7 (S : Nat → Nat → Nat) : pm_aSet S (nI 0) (nI 4) = (-2, S) := by
  simp only [pm_aSet, pm_ix_in (show (0 : Nat) < 4 by decide) (show (4 : Nat) < 2 ^ 31 by decide), pm_ix_in (show (4 : Nat) < 10 by decide) (show (10 : Nat) < 2 ^ 31 by decide)]
  exact if_neg (by decide)

set_option maxHeartbeats 4000000 in
set_option maxRecDepth 100000 in
theorem law_loop {p : Program} {l : Launch} {e : Env} {s : State} {m : MethodId} {below : List Frame} {meth : Method} {c : Code} {D : va_G} {y : Nat → ClassId} {b : Nat} {N tl tm : Nat} {xs : Nat → Int32} (hL : N ≤ 260) (C0 : lw_At p s m meth c b N xs) (hK : va_K D vwCl (pm_ty y) s) (hN : pm_NW s) (hT : pm_ST (fun q : Nat => s.heap.size ≤ q) tl tm s) {L : Nat → Nat → Nat} {dd : Nat} {Gs : Nat → Nat → Nat → Nat} {sv : Nat → Nat} {U : pm_PT} : ∀ (n i : Nat), i ≤ 150 → 151 ≤ i + n → pq_Go p l e s m below meth c D y b L dd Gs sv U i 62 := by
  intro n
  induction n with
  | zero => intro i h1 h2; omega
  | succ n ih =>
    intro i h1 h2 S Bs pi kn Zf H locs ls hI hC hP hD hS hl
    obtain ⟨hx, hb, hr, hml, hown, hts0, hX, hbl, hlocks, hgv⟩ := id C0
    have hown : s.vm.findClass RL = some m.cls := hown
    have hts : ∀ w ∈ wsL_law, w.before #[Value.ref b] s = true := fun w hw => hts0 w (wsL_law_in w hw)
    refine lv_iload_n hx hb dL_law_62 rfl (lv_at hl 3 rfl) ?_
    refine lv_sipush (v := nI 150) hx hb dL_law_63 (by decide) ?_
    refine kx_icmp_ge (tgt := 145) hx hb (by omega) (by decide) dL_law_66 (by decide) (fun c1 => ?_) (fun c1 => ?_)
    · skip
      obtain rfl : i = 150 := by omega
      refine lv_aload_n hx hb dL_law_145 rfl (lv_at hl 1 rfl) ?_
      refine lv_iconst (v := nI 3) hx hb dL_law_146 (by decide) ?_
      refine lv_iconst (v := nI 0) hx hb dL_law_147 (by decide) ?_
      refine lv_iconst (v := nI 1) hx hb dL_law_148 (by decide) ?_
      have E := pq_e1 S
      have hPc : va_P D vwCl (pm_cl y L S Bs pi kn Gs sv U) H := pq_cut hP
      have hDc := pq_cutD hD
      refine va_calli (va_runV (As := [.int (nI 3), .int (nI 0), .int (nI 1)]) (rest := []) ⟨hx, hb, hml, hown, hts⟩ (k_X3_mark l D y L S Bs pi kn Gs sv U (fun i => Bs (pi i)) Gs (nI 3) (nI 0) (nI 1) (pq_CI hC) hI.1) (cwV 3 hts gL_law_X3_mark rfl rfl rfl hd_X3_mark ⟨Nat.le_of_ble_eq_true rfl, Nat.le_of_ble_eq_true rfl⟩) ⟨pm_wr_blind, va_recv hK hPc (ci := 3) (q0 := 0) rfl rfl, pm_wr_pre hPc hK hDc⟩ rfl rfl hl.1 rfl (lv_room (Nat.le_of_ble_eq_true rfl)) dL_law_149 ⟨by show _ ≤ 600000; omega, by show _ ≤ 7302250; omega⟩) hS (fun q _ h9 => pm_ad_all hDc q h9) (pm_ad_all hDc) (fun r2 u7 t3 H1 locs ht4 _ h8 hB5 _ hk6 hS => ?_)
      have hB5 : va_P D vwCl (pm_cl y L S (pm_ub Bs (pi kn) S) (pm_rp pi kn (-1)) (pm_rk kn (-1)) Gs sv U) H1 := by have h8 : va_P D vwCl (pm_cl y L (pm_aMark S (nI 3) (nI 0) (nI 1)).2 (pm_ub Bs (pi kn) S) (pm_rp pi kn (pm_aMark S (nI 3) (nI 0) (nI 1)).1) (pm_rk kn (pm_aMark S (nI 3) (nI 0) (nI 1)).1) Gs sv U) t3.heap := hB5; rw [E] at h8; rw [← ht4]; exact h8
      obtain rfl : r2 = -1 := h8.trans (by rw [E])
      obtain ⟨hP, hD⟩ := pq_mid (w' := pm_cl y L S (pm_ub Bs (pi kn) S) (pm_rp pi kn (-1)) (pm_rk kn (-1)) Gs sv U) hP hD hk6 hB5 (pm_cl_fst ..)
      have hC9 := pq_C_r hC (-1)
      generalize pm_ub Bs (pi kn) S = Bs10 at hP hD
      generalize pm_rp pi kn (-1) = pi11 at hP hD hC9
      generalize pm_rk kn (-1) = kn12 at hP hD hC9
      generalize H1 = H at hP hS ⊢
      have hP : va_P D vwCl ((dd, .inl ((y 0), 36, .inl Zf)) :: pm_cl y L S Bs10 pi11 kn12 Gs sv U) H := hP
      have hD : va_D (fun q : Nat => s.heap.size ≤ q) ((dd, .inl ((y 0), 36, .inl Zf)) :: pm_cl y L S Bs10 pi11 kn12 Gs sv U) := hD
      refine lv_iconst (v := -1) hx hb dL_law_152 (by decide) ?_
      refine lv_icmp_ne (tgt := 249) hx hb dL_law_153 (by decide) (fun c13 => (c13 (by decide)).elim) (fun _ => ?_)
      refine lv_aload_n hx hb dL_law_156 rfl (lv_at hl 1 rfl) ?_
      refine lv_iconst (v := nI 0) hx hb dL_law_157 (by decide) ?_
      refine lv_bipush (v := nI 30) hx hb dL_law_158 (by decide) ?_
      refine lv_iconst (v := nI 1) hx hb dL_law_160 (by decide) ?_
      have E := pq_e2 S
      have hPc : va_P D vwCl (pm_cl y L S Bs10 pi11 kn12 Gs sv U) H := pq_cut hP
      have hDc := pq_cutD hD
      refine va_calli (va_runV (As := [.int (nI 0), .int (nI 30), .int (nI 1)]) (rest := []) ⟨hx, hb, hml, hown, hts⟩ (k_X3_mark l D y L S Bs10 pi11 kn12 Gs sv U (fun i => Bs10 (pi11 i)) Gs (nI 0) (nI 30) (nI 1) (pq_CI hC9) hI.1) (cwV 3 hts gL_law_X3_mark rfl rfl rfl hd_X3_mark ⟨Nat.le_of_ble_eq_true rfl, Nat.le_of_ble_eq_true rfl⟩) ⟨pm_wr_blind, va_recv hK hPc (ci := 3) (q0 := 0) rfl rfl, pm_wr_pre hPc hK hDc⟩ rfl rfl hl.1 rfl (lv_room (Nat.le_of_ble_eq_true rfl)) dL_law_161 ⟨by show _ ≤ 600000; omega, by show _ ≤ 7302250; omega⟩) hS (fun q _ h9 => pm_ad_all hDc q h9) (pm_ad_all hDc) (fun r14 u19 t15 H1 locs ht16 _ h20 hB17 _ hk18 hS => ?_)
      have hB17 : va_P D vwCl (pm_cl y L S (pm_ub Bs10 (pi11 kn12) S) (pm_rp pi11 kn12 (-1)) (pm_rk kn12 (-1)) Gs sv U) H1 := by have h8 : va_P D vwCl (pm_cl y L (pm_aMark S (nI 0) (nI 30) (nI 1)).2 (pm_ub Bs10 (pi11 kn12) S) (pm_rp pi11 kn12 (pm_aMark S (nI 0) (nI 30) (nI 1)).1) (pm_rk kn12 (pm_aMark S (nI 0) (nI 30) (nI 1)).1) Gs sv U) t15.heap := hB17; rw [E] at h8; rw [← ht16]; exact h8
      obtain rfl : r14 = -1 := h20.trans (by rw [E])
      obtain ⟨hP, hD⟩ := pq_mid (w' := pm_cl y L S (pm_ub Bs10 (pi11 kn12) S) (pm_rp pi11 kn12 (-1)) (pm_rk kn12 (-1)) Gs sv U) hP hD hk18 hB17 (pm_cl_fst ..)
      have hC21 := pq_C_r hC9 (-1)
      generalize pm_ub Bs10 (pi11 kn12) S = Bs22 at hP hD
      generalize pm_rp pi11 kn12 (-1) = pi23 at hP hD hC21
      generalize pm_rk kn12 (-1) = kn24 at hP hD hC21
      generalize H1 = H at hP hS ⊢
      have hP : va_P D vwCl ((dd, .inl ((y 0), 36, .inl Zf)) :: pm_cl y L S Bs22 pi23 kn24 Gs sv U) H := hP
      have hD : va_D (fun q : Nat => s.heap.size ≤ q) ((dd, .inl ((y 0), 36, .inl Zf)) :: pm_cl y L S Bs22 pi23 kn24 Gs sv U) := hD
      refine lv_iconst (v := -1) hx hb dL_law_164 (by decide) ?_
      refine lv_icmp_ne (tgt := 249) hx hb dL_law_165 (by decide) (fun c25 => (c25 (by decide)).elim) (fun _ => ?_)
      refine lv_aload_n hx hb dL_law_168 rfl (lv_at hl 1 rfl) ?_
      refine lv_iconst (v := nI 0) hx hb dL_law_169 (by decide) ?_
      refine lv_iconst (v := nI 0) hx hb dL_law_170 (by decide) ?_
      refine lv_iconst (v := nI 3) hx hb dL_law_171 (by decide) ?_
      have E := pq_e3 S
      have hPc : va_P D vwCl (pm_cl y L S Bs22 pi23 kn24 Gs sv U) H := pq_cut hP
      have hDc := pq_cutD hD
      refine va_calli (va_runV (As := [.int (nI 0), .int (nI 0), .int (nI 3)]) (rest := []) ⟨hx, hb, hml, hown, hts⟩ (k_X3_mark l D y L S Bs22 pi23 kn24 Gs sv U (fun i => Bs22 (pi23 i)) Gs (nI 0) (nI 0) (nI 3) (pq_CI hC21) hI.1) (cwV 3 hts gL_law_X3_mark rfl rfl rfl hd_X3_mark ⟨Nat.le_of_ble_eq_true rfl, Nat.le_of_ble_eq_true rfl⟩) ⟨pm_wr_blind, va_recv hK hPc (ci := 3) (q0 := 0) rfl rfl, pm_wr_pre hPc hK hDc⟩ rfl rfl hl.1 rfl (lv_room (Nat.le_of_ble_eq_true rfl)) dL_law_172 ⟨by show _ ≤ 600000; omega, by show _ ≤ 7302250; omega⟩) hS (fun q _ h9 => pm_ad_all hDc q h9) (pm_ad_all hDc) (fun r26 u31 t27 H1 locs ht28 _ h32 hB29 _ hk30 hS => ?_)
      have hB29 : va_P D vwCl (pm_cl y L S (pm_ub Bs22 (pi23 kn24) S) (pm_rp pi23 kn24 (-2)) (pm_rk kn24 (-2)) Gs sv U) H1 := by have h8 : va_P D vwCl (pm_cl y L (pm_aMark S (nI 0) (nI 0) (nI 3)).2 (pm_ub Bs22 (pi23 kn24) S) (pm_rp pi23 kn24 (pm_aMark S (nI 0) (nI 0) (nI 3)).1) (pm_rk kn24 (pm_aMark S (nI 0) (nI 0) (nI 3)).1) Gs sv U) t27.heap := hB29; rw [E] at h8; rw [← ht28]; exact h8
      obtain rfl : r26 = -2 := h32.trans (by rw [E])
      obtain ⟨hP, hD⟩ := pq_mid (w' := pm_cl y L S (pm_ub Bs22 (pi23 kn24) S) (pm_rp pi23 kn24 (-2)) (pm_rk kn24 (-2)) Gs sv U) hP hD hk30 hB29 (pm_cl_fst ..)
      have hC33 := pq_C_r hC21 (-2)
      generalize pm_ub Bs22 (pi23 kn24) S = Bs34 at hP hD
      generalize pm_rp pi23 kn24 (-2) = pi35 at hP hD hC33
      generalize pm_rk kn24 (-2) = kn36 at hP hD hC33
      generalize H1 = H at hP hS ⊢
      have hP : va_P D vwCl ((dd, .inl ((y 0), 36, .inl Zf)) :: pm_cl y L S Bs34 pi35 kn36 Gs sv U) H := hP
      have hD : va_D (fun q : Nat => s.heap.size ≤ q) ((dd, .inl ((y 0), 36, .inl Zf)) :: pm_cl y L S Bs34 pi35 kn36 Gs sv U) := hD
      refine lv_bipush (v := (-2)) hx hb dL_law_175 (by decide) ?_
      refine lv_icmp_ne (tgt := 249) hx hb dL_law_177 (by decide) (fun c37 => (c37 (by decide)).elim) (fun _ => ?_)
      refine lv_aload_n hx hb dL_law_180 rfl (lv_at hl 1 rfl) ?_
      refine lv_iconst (v := nI 0) hx hb dL_law_181 (by decide) ?_
      refine lv_iconst (v := nI 4) hx hb dL_law_182 (by decide) ?_
      have E := pq_e4 S
      have hPc : va_P D vwCl (pm_cl y L S Bs34 pi35 kn36 Gs sv U) H := pq_cut hP
      have hDc := pq_cutD hD
      refine va_calli (va_runV (As := [.int (nI 0), .int (nI 4)]) (rest := []) ⟨hx, hb, hml, hown, hts⟩ (k_X3_print l D y L S Bs34 pi35 kn36 Gs sv U (fun i => Bs34 (pi35 i)) Gs (nI 0) (nI 4) (pq_CI hC33) hI.1) (cwV 2 hts gL_law_X3_print rfl rfl rfl hd_X3_print ⟨Nat.le_of_ble_eq_true rfl, Nat.le_of_ble_eq_true rfl⟩) ⟨pm_wr_blind, va_recv hK hPc (ci := 3) (q0 := 0) rfl rfl, pm_wr_pre hPc hK hDc⟩ rfl rfl hl.1 rfl (lv_room (Nat.le_of_ble_eq_true rfl)) dL_law_183 ⟨by show _ ≤ 600000; omega, by show _ ≤ 7302250; omega⟩) hS (fun q _ h9 => pm_ad_all hDc q h9) (pm_ad_all hDc) (fun r38 u43 t39 H1 locs ht40 _ h44 hB41 _ hk42 hS => ?_)
      have hB41 : va_P D vwCl (pm_cl y L S (pm_ub Bs34 (pi35 kn36) S) (pm_rp pi35 kn36 (-2)) (pm_rk kn36 (-2)) Gs sv U) H1 := by have h8 : va_P D vwCl (pm_cl y L (pm_aPrint S (nI 0) (nI 4)).2 (pm_ub Bs34 (pi35 kn36) S) (pm_rp pi35 kn36 (pm_aPrint S (nI 0) (nI 4)).1) (pm_rk kn36 (pm_aPrint S (nI 0) (nI 4)).1) Gs sv U) t39.heap := hB41; rw [E] at h8; rw [← ht40]; exact h8
      obtain rfl : r38 = -2 := h44.trans (by rw [E])
      obtain ⟨hP, hD⟩ := pq_mid (w' := pm_cl y L S (pm_ub Bs34 (pi35 kn36) S) (pm_rp pi35 kn36 (-2)) (pm_rk kn36 (-2)) Gs sv U) hP hD hk42 hB41 (pm_cl_fst ..)
      have hC45 := pq_C_r hC33 (-2)
      generalize pm_ub Bs34 (pi35 kn36) S = Bs46 at hP hD
      generalize pm_rp pi35 kn36 (-2) = pi47 at hP hD hC45
      generalize pm_rk kn36 (-2) = kn48 at hP hD hC45
      generalize H1 = H at hP hS ⊢
      have hP : va_P D vwCl ((dd, .inl ((y 0), 36, .inl Zf)) :: pm_cl y L S Bs46 pi47 kn48 Gs sv U) H := hP
      have hD : va_D (fun q : Nat => s.heap.size ≤ q) ((dd, .inl ((y 0), 36, .inl Zf)) :: pm_cl y L S Bs46 pi47 kn48 Gs sv U) := hD
      refine lv_bipush (v := (-2)) hx hb dL_law_186 (by decide) ?_
      refine lv_icmp_ne (tgt := 249) hx hb dL_law_188 (by decide) (fun c49 => (c49 (by decide)).elim) (fun _ => ?_)
      refine lv_aload_n hx hb dL_law_191 rfl (lv_at hl 1 rfl) ?_
      refine lv_bipush (v := nI 100) hx hb dL_law_192 (by decide) ?_
      have E := pq_e5 S
      have hPc : va_P D vwCl (pm_cl y L S Bs46 pi47 kn48 Gs sv U) H := pq_cut hP
      have hDc := pq_cutD hD
      refine va_calli (va_runV (As := [.int (nI 100)]) (rest := []) ⟨hx, hb, hml, hown, hts⟩ (k_X3_buy l D y L S Bs46 pi47 kn48 Gs sv U (fun i => Bs46 (pi47 i)) Gs (nI 100) (pq_CI hC45) hI.1) (cwV 1 hts gL_law_X3_buy rfl rfl rfl hd_X3_buy ⟨Nat.le_of_ble_eq_true rfl, Nat.le_of_ble_eq_true rfl⟩) ⟨pm_wr_blind, va_recv hK hPc (ci := 3) (q0 := 0) rfl rfl, pm_wr_pre hPc hK hDc⟩ rfl rfl hl.1 rfl (lv_room (Nat.le_of_ble_eq_true rfl)) dL_law_194 ⟨by show _ ≤ 600000; omega, by show _ ≤ 7302250; omega⟩) hS (fun q _ h9 => pm_ad_all hDc q h9) (pm_ad_all hDc) (fun r50 u55 t51 H1 locs ht52 _ h56 hB53 _ hk54 hS => ?_)
      have hB53 : va_P D vwCl (pm_cl y L S (pm_ub Bs46 (pi47 kn48) S) (pm_rp pi47 kn48 (-2)) (pm_rk kn48 (-2)) Gs sv U) H1 := by have h8 : va_P D vwCl (pm_cl y L (pm_aBuy S (nI 100)).2 (pm_ub Bs46 (pi47 kn48) S) (pm_rp pi47 kn48 (pm_aBuy S (nI 100)).1) (pm_rk kn48 (pm_aBuy S (nI 100)).1) Gs sv U) t51.heap := hB53; rw [E] at h8; rw [← ht52]; exact h8
      obtain rfl : r50 = -2 := h56.trans (by rw [E])
      obtain ⟨hP, hD⟩ := pq_mid (w' := pm_cl y L S (pm_ub Bs46 (pi47 kn48) S) (pm_rp pi47 kn48 (-2)) (pm_rk kn48 (-2)) Gs sv U) hP hD hk54 hB53 (pm_cl_fst ..)
      have hC57 := pq_C_r hC45 (-2)
      generalize pm_ub Bs46 (pi47 kn48) S = Bs58 at hP hD
      generalize pm_rp pi47 kn48 (-2) = pi59 at hP hD hC57
      generalize pm_rk kn48 (-2) = kn60 at hP hD hC57
      generalize H1 = H at hP hS ⊢
      have hP : va_P D vwCl ((dd, .inl ((y 0), 36, .inl Zf)) :: pm_cl y L S Bs58 pi59 kn60 Gs sv U) H := hP
      have hD : va_D (fun q : Nat => s.heap.size ≤ q) ((dd, .inl ((y 0), 36, .inl Zf)) :: pm_cl y L S Bs58 pi59 kn60 Gs sv U) := hD
      refine lv_bipush (v := (-2)) hx hb dL_law_197 (by decide) ?_
      refine lv_icmp_ne (tgt := 249) hx hb dL_law_199 (by decide) (fun c61 => (c61 (by decide)).elim) (fun _ => ?_)
      refine lv_aload_n hx hb dL_law_202 rfl (lv_at hl 1 rfl) ?_
      refine lv_iconst (v := nI 4) hx hb dL_law_203 (by decide) ?_
      refine lv_iconst (v := nI 1) hx hb dL_law_204 (by decide) ?_
      have E := pq_e6 S
      have hPc : va_P D vwCl (pm_cl y L S Bs58 pi59 kn60 Gs sv U) H := pq_cut hP
      have hDc := pq_cutD hD
      refine va_calli (va_runV (As := [.int (nI 4), .int (nI 1)]) (rest := []) ⟨hx, hb, hml, hown, hts⟩ (k_X3_set l D y L S Bs58 pi59 kn60 Gs sv U (fun i => Bs58 (pi59 i)) Gs tl tm (nI 4) (nI 1) (pq_CI hC57) hI.1) (cwV 2 hts gL_law_X3_set rfl rfl rfl hd_X3_set ⟨Nat.le_of_ble_eq_true rfl, Nat.le_of_ble_eq_true rfl⟩) ⟨pm_wrs_blind, va_recv hK hPc (ci := 3) (q0 := 0) rfl rfl, pm_wrs_pre (H0 := s.heap) hPc hK hDc (fun _ h => h) hS hT⟩ rfl rfl hl.1 rfl (lv_room (Nat.le_of_ble_eq_true rfl)) dL_law_205 ⟨by show _ ≤ 600000; omega, by show _ ≤ 7302250; omega⟩) hS (fun q _ h9 => pm_ad_all hDc q h9) (pm_ad_all hDc) (fun r62 u67 t63 H1 locs ht64 _ h68 hB65 _ hk66 hS => ?_)
      have hB65 : va_P D vwCl (pm_cl y L S (pm_ub Bs58 (pi59 kn60) S) (pm_rp pi59 kn60 (-2)) (pm_rk kn60 (-2)) Gs sv U) H1 := by have h8 : va_P D vwCl (pm_cl y L (pm_aSet S (nI 4) (nI 1)).2 (pm_ub Bs58 (pi59 kn60) S) (pm_rp pi59 kn60 (pm_aSet S (nI 4) (nI 1)).1) (pm_rk kn60 (pm_aSet S (nI 4) (nI 1)).1) Gs sv U) t63.heap := hB65; rw [E] at h8; rw [← ht64]; exact h8
      obtain rfl : r62 = -2 := h68.trans (by rw [E])
      obtain ⟨hP, hD⟩ := pq_mid (w' := pm_cl y L S (pm_ub Bs58 (pi59 kn60) S) (pm_rp pi59 kn60 (-2)) (pm_rk kn60 (-2)) Gs sv U) hP hD hk66 hB65 (pm_cl_fst ..)
      have hC69 := pq_C_r hC57 (-2)
      generalize pm_ub Bs58 (pi59 kn60) S = Bs70 at hP hD
      generalize pm_rp pi59 kn60 (-2) = pi71 at hP hD hC69
      generalize pm_rk kn60 (-2) = kn72 at hP hD hC69
      generalize H1 = H at hP hS ⊢
      have hP : va_P D vwCl ((dd, .inl ((y 0), 36, .inl Zf)) :: pm_cl y L S Bs70 pi71 kn72 Gs sv U) H := hP
      have hD : va_D (fun q : Nat => s.heap.size ≤ q) ((dd, .inl ((y 0), 36, .inl Zf)) :: pm_cl y L S Bs70 pi71 kn72 Gs sv U) := hD
      refine lv_bipush (v := (-2)) hx hb dL_law_208 (by decide) ?_
      refine lv_icmp_ne (tgt := 249) hx hb dL_law_210 (by decide) (fun c73 => (c73 (by decide)).elim) (fun _ => ?_)
      refine lv_aload_n hx hb dL_law_213 rfl (lv_at hl 1 rfl) ?_
      refine lv_iconst (v := nI 0) hx hb dL_law_214 (by decide) ?_
      refine lv_iconst (v := nI 4) hx hb dL_law_215 (by decide) ?_
      have E := pq_e7 S
      have hPc : va_P D vwCl (pm_cl y L S Bs70 pi71 kn72 Gs sv U) H := pq_cut hP
      have hDc := pq_cutD hD
      refine va_calli (va_runV (As := [.int (nI 0), .int (nI 4)]) (rest := []) ⟨hx, hb, hml, hown, hts⟩ (k_X3_set l D y L S Bs70 pi71 kn72 Gs sv U (fun i => Bs70 (pi71 i)) Gs tl tm (nI 0) (nI 4) (pq_CI hC69) hI.1) (cwV 2 hts gL_law_X3_set rfl rfl rfl hd_X3_set ⟨Nat.le_of_ble_eq_true rfl, Nat.le_of_ble_eq_true rfl⟩) ⟨pm_wrs_blind, va_recv hK hPc (ci := 3) (q0 := 0) rfl rfl, pm_wrs_pre (H0 := s.heap) hPc hK hDc (fun _ h => h) hS hT⟩ rfl rfl hl.1 rfl (lv_room (Nat.le_of_ble_eq_true rfl)) dL_law_216 ⟨by show _ ≤ 600000; omega, by show _ ≤ 7302250; omega⟩) hS (fun q _ h9 => pm_ad_all hDc q h9) (pm_ad_all hDc) (fun r74 u79 t75 H1 locs ht76 _ h80 hB77 _ hk78 hS => ?_)
      have hB77 : va_P D vwCl (pm_cl y L S (pm_ub Bs70 (pi71 kn72) S) (pm_rp pi71 kn72 (-2)) (pm_rk kn72 (-2)) Gs sv U) H1 := by have h8 : va_P D vwCl (pm_cl y L (pm_aSet S (nI 0) (nI 4)).2 (pm_ub Bs70 (pi71 kn72) S) (pm_rp pi71 kn72 (pm_aSet S (nI 0) (nI 4)).1) (pm_rk kn72 (pm_aSet S (nI 0) (nI 4)).1) Gs sv U) t75.heap := hB77; rw [E] at h8; rw [← ht76]; exact h8
      obtain rfl : r74 = -2 := h80.trans (by rw [E])
      obtain ⟨hP, hD⟩ := pq_mid (w' := pm_cl y L S (pm_ub Bs70 (pi71 kn72) S) (pm_rp pi71 kn72 (-2)) (pm_rk kn72 (-2)) Gs sv U) hP hD hk78 hB77 (pm_cl_fst ..)
      have hC81 := pq_C_r hC69 (-2)
      generalize pm_ub Bs70 (pi71 kn72) S = Bs82 at hP hD
      generalize pm_rp pi71 kn72 (-2) = pi83 at hP hD hC81
      generalize pm_rk kn72 (-2) = kn84 at hP hD hC81
      generalize H1 = H at hP hS ⊢
      have hP : va_P D vwCl ((dd, .inl ((y 0), 36, .inl Zf)) :: pm_cl y L S Bs82 pi83 kn84 Gs sv U) H := hP
      have hD : va_D (fun q : Nat => s.heap.size ≤ q) ((dd, .inl ((y 0), 36, .inl Zf)) :: pm_cl y L S Bs82 pi83 kn84 Gs sv U) := hD
      refine lv_bipush (v := (-2)) hx hb dL_law_219 (by decide) ?_
      refine lv_icmp_ne (tgt := 249) hx hb dL_law_221 (by decide) (fun c85 => (c85 (by decide)).elim) (fun _ => ?_)
      refine lv_aload_n hx hb dL_law_224 rfl (lv_at hl 1 rfl) ?_
      refine lv_iconst (v := nI 3) hx hb dL_law_225 (by decide) ?_
      have hPc : va_P D vwCl (pm_cl y L S Bs82 pi83 kn84 Gs sv U) H := pq_cut hP
      refine vp_callSi (W.runV (As := [.int (nI 3)]) (rest := []) ⟨hx, hb, hml, hown, hts⟩ (k_X3_ifRound l D y L S Bs82 pi83 kn84 Gs sv U Bs Gs (nI 3) hI.1) (cwV 1 hts gL_law_X3_ifRound rfl rfl rfl hd_X3_ifRound ⟨Nat.le_of_ble_eq_true rfl, Nat.le_of_ble_eq_true rfl⟩) ⟨pm_ro_blind, va_recv hK hPc (ci := 3) (q0 := 0) rfl rfl, pm_ro_pre hPc hK⟩ rfl rfl hl.1 rfl (lv_room (Nat.le_of_ble_eq_true rfl)) dL_law_226 ⟨by show _ ≤ 600000; omega, by show _ ≤ 7302250; omega⟩) (fun r86 h87 => ?_)
      obtain rfl : r86 = -2 := h87.trans (pq_if3)
      refine lv_bipush (v := (-2)) hx hb dL_law_229 (by decide) ?_
      refine lv_icmp_ne (tgt := 249) hx hb dL_law_231 (by decide) (fun c88 => (c88 (by decide)).elim) (fun _ => ?_)
      refine lv_aload_n hx hb dL_law_234 rfl (lv_at hl 1 rfl) ?_
      refine lv_bipush (v := nI 17) hx hb dL_law_235 (by decide) ?_
      have hPc : va_P D vwCl (pm_cl y L S Bs82 pi83 kn84 Gs sv U) H := pq_cut hP
      refine vp_callSi (W.runV (As := [.int (nI 17)]) (rest := []) ⟨hx, hb, hml, hown, hts⟩ (k_X3_count l D y L S Bs82 pi83 kn84 Gs sv U Bs Gs (nI 17) hI.1) (cwV 1 hts gL_law_X3_count rfl rfl rfl hd_X3_count ⟨Nat.le_of_ble_eq_true rfl, Nat.le_of_ble_eq_true rfl⟩) ⟨pm_ron_blind, va_recv hK hPc (ci := 3) (q0 := 0) rfl rfl, pm_ron_pre hPc hK hN⟩ rfl rfl hl.1 rfl (lv_room (Nat.le_of_ble_eq_true rfl)) dL_law_237 ⟨by show _ ≤ 600000; omega, by show _ ≤ 7302250; omega⟩) (fun r89 h90 => ?_)
      obtain rfl : r89 = -2 := h90.trans (pq_co17)
      refine lv_bipush (v := (-2)) hx hb dL_law_240 (by decide) ?_
      refine lv_icmp_ne (tgt := 249) hx hb dL_law_242 (by decide) (fun c91 => (c91 (by decide)).elim) (fun _ => ?_)
      refine lv_iconst (v := 1) hx hb dL_law_245 (by decide) ?_
      refine lv_goto (tgt := 250) hx hb dL_law_246 (by decide) ?_
      refine va_forget (fun q hq => hS.2.2 q hq) ?_
      refine W.widen (k := 600000) (n := 7302250) (by omega) (by omega) ?_
      exact lw_ret hx hb hr hlocks dL_law_250
    · skip
      refine lv_aload_n hx hb dL_law_69 rfl (lv_at hl 1 rfl) ?_
      refine lv_aload_n hx hb dL_law_70 rfl (lv_at hl 2 rfl) ?_
      refine lv_aload_n hx hb dL_law_71 rfl (lv_at hl 0 rfl) ?_
      refine lv_iconst (v := nI 2) hx hb dL_law_72 (by decide) ?_
      refine lv_iload_n hx hb dL_law_73 rfl (lv_at hl 3 rfl) ?_
      refine kx_imul hx hb dL_law_74 ?_
      refine vp_callSi (W.runS (As := [.ref b, .int (nI (2 * i))]) (rest := [.ref dd, .ref (L 0 0)]) ⟨hx, hb, hml, hown, hts⟩ (k_L_cell l b N xs (2 * i) hL (by omega)) (va_cwS 2 hts gL_law_L_cell rfl rfl rfl hd_L_cell ⟨Nat.le_of_ble_eq_true rfl, Nat.le_of_ble_eq_true rfl⟩) ⟨pq_sc_blind, pq_sc_pre (hX.kept (hS.2.1 b hbl (Nat.not_le.mpr hbl))) (Nat.lt_of_lt_of_le hbl hS.1)⟩ rfl rfl hl.1 rfl (lv_room (Nat.le_of_ble_eq_true rfl)) dL_law_75 ⟨by show _ ≤ 600000; omega, by show _ ≤ 7302250; omega⟩) (fun r92 h93 => ?_)
      refine lv_aload_n hx hb dL_law_78 rfl (lv_at hl 0 rfl) ?_
      refine lv_iconst (v := nI 2) hx hb dL_law_79 (by decide) ?_
      refine lv_iload_n hx hb dL_law_80 rfl (lv_at hl 3 rfl) ?_
      refine kx_imul hx hb dL_law_81 ?_
      refine lv_iconst (v := nI 1) hx hb dL_law_82 (by decide) ?_
      refine kx_iadd hx hb dL_law_83 ?_
      refine vp_callSi (W.runS (As := [.ref b, .int (nI ((2 * i) + 1))]) (rest := [.int r92, .ref dd, .ref (L 0 0)]) ⟨hx, hb, hml, hown, hts⟩ (k_L_cell l b N xs ((2 * i) + 1) hL (by omega)) (va_cwS 2 hts gL_law_L_cell rfl rfl rfl hd_L_cell ⟨Nat.le_of_ble_eq_true rfl, Nat.le_of_ble_eq_true rfl⟩) ⟨pq_sc_blind, pq_sc_pre (hX.kept (hS.2.1 b hbl (Nat.not_le.mpr hbl))) (Nat.lt_of_lt_of_le hbl hS.1)⟩ rfl rfl hl.1 rfl (lv_room (Nat.le_of_ble_eq_true rfl)) dL_law_84 ⟨by show _ ≤ 600000; omega, by show _ ≤ 7302250; omega⟩) (fun r94 h95 => ?_)
      refine va_calli (va_runS (As := [.ref (L 0 0), .ref dd, .int r92, .int r94]) (rest := []) ⟨hx, hb, hml, hown, hts⟩ (k_L_does l D y L S Bs pi kn Gs sv U dd Zf tl tm r92 r94 hI hC) (va_cwS 4 hts gL_law_L_does rfl rfl rfl hd_L_does ⟨Nat.le_of_ble_eq_true rfl, Nat.le_of_ble_eq_true rfl⟩) ⟨pq_wx_blind, pq_wx_pre hP hK hD (fun _ h => h) hS hT hN⟩ rfl rfl hl.1 rfl (lv_room (Nat.le_of_ble_eq_true rfl)) dL_law_87 ⟨by show _ ≤ 600000; omega, by show _ ≤ 7302250; omega⟩) hS (fun q _ h9 => pm_ad_all hD q h9) (pm_ad_all hD) (fun r96 u101 t97 H1 locs ht98 _ h102 hB99 _ hk100 hS => ?_)
      obtain ⟨rfl, hI103, hC104⟩ := h102
      obtain ⟨hP, hD⟩ := pm_all (D := D) (cl := vwCl) (H1 := H1) hD (w' := (dd, .inl ((y 0), 36, .inl u101.2)) :: pm_cl y L u101.1.1 u101.1.2.1 u101.1.2.2.1 u101.1.2.2.2 Gs sv U) (by rw [← ht98]; exact hB99) pq_fst
      generalize H1 = H at hP hS ⊢
      have hP : va_P D vwCl ((dd, .inl ((y 0), 36, .inl u101.2)) :: pm_cl y L u101.1.1 u101.1.2.1 u101.1.2.2.1 u101.1.2.2.2 Gs sv U) H := hP
      have hD : va_D (fun q : Nat => s.heap.size ≤ q) ((dd, .inl ((y 0), 36, .inl u101.2)) :: pm_cl y L u101.1.1 u101.1.2.1 u101.1.2.2.1 u101.1.2.2.2 Gs sv U) := hD
      refine lv_if_eq (tgt := 137) hx hb dL_law_90 (by decide) (fun c105 => absurd c105 (by decide)) (fun _ => ?_)
      refine lv_iload_n hx hb dL_law_93 rfl (lv_at hl 3 rfl) ?_
      refine lv_iconst (v := nI 2) hx hb dL_law_94 (by decide) ?_
      refine kx_irem hx hb (by omega) (by omega) (by omega) dL_law_95 ?_
      refine lv_iconst (v := nI 1) hx hb dL_law_96 (by decide) ?_
      refine kx_icmp_ne (tgt := 107) hx hb (by omega) (by decide) dL_law_97 (by decide) (fun c106 => ?_) (fun c106 => ?_)
      · skip
        refine lv_iload_n hx hb dL_law_107 rfl (lv_at hl 3 rfl) ?_
        refine lv_iconst (v := nI 5) hx hb dL_law_108 (by decide) ?_
        refine kx_irem hx hb (by omega) (by omega) (by omega) dL_law_109 ?_
        refine lv_iconst (v := nI 3) hx hb dL_law_110 (by decide) ?_
        refine kx_icmp_ne (tgt := 121) hx hb (by omega) (by decide) dL_law_111 (by decide) (fun c107 => ?_) (fun c107 => ?_)
        · skip
          refine lv_iload_n hx hb dL_law_121 rfl (lv_at hl 3 rfl) ?_
          refine lv_bipush (v := nI 15) hx hb dL_law_122 (by decide) ?_
          refine kx_irem hx hb (by omega) (by omega) (by omega) dL_law_124 ?_
          refine lv_bipush (v := nI 11) hx hb dL_law_125 (by decide) ?_
          refine kx_icmp_ne (tgt := 139) hx hb (by omega) (by decide) dL_law_127 (by decide) (fun c108 => ?_) (fun c108 => ?_)
          · skip
            refine kx_iinc (a := i) (lv' := [(3, .int (nI (i + 1))), (0, .ref b), (1, .ref (L 0 0)), (2, .ref dd)]) hx hb dL_law_139 hl (k := 3) rfl (by decide) rfl (fun ls hl => ?_)
            refine lv_goto (tgt := 62) hx hb dL_law_142 (by decide) ?_
            refine W.widen (k := 139 + (i + 1)) (n := 2296 + 4 * (i + 1)) (by omega) (by omega) ?_
            exact ih (i + 1) (by omega) (by omega) u101.1.1 u101.1.2.1 u101.1.2.2.1 u101.1.2.2.2 u101.2 H locs ls hI103 hC104 hP hD hS (lv_sub hl [1, 2, 3, 0] rfl)
          · skip
            refine lv_aload_n hx hb dL_law_130 rfl (lv_at hl 1 rfl) ?_
            have hPc : va_P D vwCl (pm_cl y L u101.1.1 u101.1.2.1 u101.1.2.2.1 u101.1.2.2.2 Gs sv U) H := pq_cut hP
            refine vp_callSi (W.runS (As := [.ref (L 0 0)]) (rest := []) ⟨hx, hb, hml, hown, hts⟩ (k_L_areEditors l D y L u101.1.1 u101.1.2.1 u101.1.2.2.1 u101.1.2.2.2 Gs sv U hI103) (va_cwS 1 hts gL_law_L_areEditors rfl rfl rfl hd_L_areEditors ⟨Nat.le_of_ble_eq_true rfl, Nat.le_of_ble_eq_true rfl⟩) ⟨pm_ron_blind, pm_ron_pre hPc hK hN⟩ rfl rfl hl.1 rfl (lv_room (Nat.le_of_ble_eq_true rfl)) dL_law_131 ⟨by show _ ≤ 600000; omega, by show _ ≤ 7302250; omega⟩) (fun r109 h110 => ?_)
            obtain rfl : r109 = nI 1 := h110
            refine lv_if_ne (tgt := 139) hx hb dL_law_134 (by decide) (fun _ => ?_) (fun c115 => absurd c115 (by decide))
            refine kx_iinc (a := i) (lv' := [(3, .int (nI (i + 1))), (0, .ref b), (1, .ref (L 0 0)), (2, .ref dd)]) hx hb dL_law_139 hl (k := 3) rfl (by decide) rfl (fun ls hl => ?_)
            refine lv_goto (tgt := 62) hx hb dL_law_142 (by decide) ?_
            refine W.widen (k := 139 + (i + 1)) (n := 2296 + 4 * (i + 1)) (by omega) (by omega) ?_
            exact ih (i + 1) (by omega) (by omega) u101.1.1 u101.1.2.1 u101.1.2.2.1 u101.1.2.2.2 u101.2 H locs ls hI103 hC104 hP hD hS (lv_sub hl [1, 2, 3, 0] rfl)
        · skip
          refine lv_aload_n hx hb dL_law_114 rfl (lv_at hl 1 rfl) ?_
          have hPc : va_P D vwCl (pm_cl y L u101.1.1 u101.1.2.1 u101.1.2.2.1 u101.1.2.2.2 Gs sv U) H := pq_cut hP
          refine vp_callSi (W.runS (As := [.ref (L 0 0)]) (rest := []) ⟨hx, hb, hml, hown, hts⟩ (k_L_areChosen l D y L u101.1.1 u101.1.2.1 u101.1.2.2.1 u101.1.2.2.2 Gs sv U hI103) (va_cwS 1 hts gL_law_L_areChosen rfl rfl rfl hd_L_areChosen ⟨Nat.le_of_ble_eq_true rfl, Nat.le_of_ble_eq_true rfl⟩) ⟨pm_ron_blind, pm_ron_pre hPc hK hN⟩ rfl rfl hl.1 rfl (lv_room (Nat.le_of_ble_eq_true rfl)) dL_law_115 ⟨by show _ ≤ 600000; omega, by show _ ≤ 7302250; omega⟩) (fun r116 h117 => ?_)
          obtain rfl : r116 = nI 1 := h117
          refine lv_if_eq (tgt := 137) hx hb dL_law_118 (by decide) (fun c122 => absurd c122 (by decide)) (fun _ => ?_)
          refine lv_iload_n hx hb dL_law_121 rfl (lv_at hl 3 rfl) ?_
          refine lv_bipush (v := nI 15) hx hb dL_law_122 (by decide) ?_
          refine kx_irem hx hb (by omega) (by omega) (by omega) dL_law_124 ?_
          refine lv_bipush (v := nI 11) hx hb dL_law_125 (by decide) ?_
          refine kx_icmp_ne (tgt := 139) hx hb (by omega) (by decide) dL_law_127 (by decide) (fun c123 => ?_) (fun c123 => ?_)
          · skip
            refine kx_iinc (a := i) (lv' := [(3, .int (nI (i + 1))), (0, .ref b), (1, .ref (L 0 0)), (2, .ref dd)]) hx hb dL_law_139 hl (k := 3) rfl (by decide) rfl (fun ls hl => ?_)
            refine lv_goto (tgt := 62) hx hb dL_law_142 (by decide) ?_
            refine W.widen (k := 139 + (i + 1)) (n := 2296 + 4 * (i + 1)) (by omega) (by omega) ?_
            exact ih (i + 1) (by omega) (by omega) u101.1.1 u101.1.2.1 u101.1.2.2.1 u101.1.2.2.2 u101.2 H locs ls hI103 hC104 hP hD hS (lv_sub hl [1, 2, 3, 0] rfl)
          · skip
            refine lv_aload_n hx hb dL_law_130 rfl (lv_at hl 1 rfl) ?_
            have hPc : va_P D vwCl (pm_cl y L u101.1.1 u101.1.2.1 u101.1.2.2.1 u101.1.2.2.2 Gs sv U) H := pq_cut hP
            refine vp_callSi (W.runS (As := [.ref (L 0 0)]) (rest := []) ⟨hx, hb, hml, hown, hts⟩ (k_L_areEditors l D y L u101.1.1 u101.1.2.1 u101.1.2.2.1 u101.1.2.2.2 Gs sv U hI103) (va_cwS 1 hts gL_law_L_areEditors rfl rfl rfl hd_L_areEditors ⟨Nat.le_of_ble_eq_true rfl, Nat.le_of_ble_eq_true rfl⟩) ⟨pm_ron_blind, pm_ron_pre hPc hK hN⟩ rfl rfl hl.1 rfl (lv_room (Nat.le_of_ble_eq_true rfl)) dL_law_131 ⟨by show _ ≤ 600000; omega, by show _ ≤ 7302250; omega⟩) (fun r124 h125 => ?_)
            obtain rfl : r124 = nI 1 := h125
            refine lv_if_ne (tgt := 139) hx hb dL_law_134 (by decide) (fun _ => ?_) (fun c130 => absurd c130 (by decide))
            refine kx_iinc (a := i) (lv' := [(3, .int (nI (i + 1))), (0, .ref b), (1, .ref (L 0 0)), (2, .ref dd)]) hx hb dL_law_139 hl (k := 3) rfl (by decide) rfl (fun ls hl => ?_)
            refine lv_goto (tgt := 62) hx hb dL_law_142 (by decide) ?_
            refine W.widen (k := 139 + (i + 1)) (n := 2296 + 4 * (i + 1)) (by omega) (by omega) ?_
            exact ih (i + 1) (by omega) (by omega) u101.1.1 u101.1.2.1 u101.1.2.2.1 u101.1.2.2.2 u101.2 H locs ls hI103 hC104 hP hD hS (lv_sub hl [1, 2, 3, 0] rfl)
      · skip
        refine lv_aload_n hx hb dL_law_100 rfl (lv_at hl 1 rfl) ?_
        have hPc : va_P D vwCl (pm_cl y L u101.1.1 u101.1.2.1 u101.1.2.2.1 u101.1.2.2.2 Gs sv U) H := pq_cut hP
        refine va_calli (va_runS (As := [.ref (L 0 0)]) (rest := []) ⟨hx, hb, hml, hown, hts⟩ (k_L_areFrames l D y L u101.1.1 u101.1.2.1 u101.1.2.2.1 u101.1.2.2.2 Gs sv U hI103) (va_cwS 1 hts gL_law_L_areFrames rfl rfl rfl hd_L_areFrames ⟨Nat.le_of_ble_eq_true rfl, Nat.le_of_ble_eq_true rfl⟩) ⟨pm_ron_blind, pm_ron_pre hPc hK hN⟩ rfl rfl hl.1 rfl (lv_room (Nat.le_of_ble_eq_true rfl)) dL_law_101 ⟨by show _ ≤ 600000; omega, by show _ ≤ 7302250; omega⟩) hS (fun q _ h => h.elim) (fun q h => h.elim) (fun r131 u136 t133 H1 locs ht134 _ h132 _ _ hk135 hS => ?_)
        obtain rfl : r131 = nI 1 := h132
        have hP : va_P D vwCl ((dd, .inl ((y 0), 36, .inl u101.2)) :: pm_cl y L u101.1.1 u101.1.2.1 u101.1.2.2.1 u101.1.2.2.2 Gs sv U) H1 := hP.kept (fun k q hq => hk135 q.1 ((hP k q hq).lt) (fun z => z))
        generalize H1 = H at hP hS ⊢
        refine lv_if_eq (tgt := 137) hx hb dL_law_104 (by decide) (fun c137 => absurd c137 (by decide)) (fun _ => ?_)
        refine lv_iload_n hx hb dL_law_107 rfl (lv_at hl 3 rfl) ?_
        refine lv_iconst (v := nI 5) hx hb dL_law_108 (by decide) ?_
        refine kx_irem hx hb (by omega) (by omega) (by omega) dL_law_109 ?_
        refine lv_iconst (v := nI 3) hx hb dL_law_110 (by decide) ?_
        refine kx_icmp_ne (tgt := 121) hx hb (by omega) (by decide) dL_law_111 (by decide) (fun c138 => ?_) (fun c138 => ?_)
        · skip
          refine lv_iload_n hx hb dL_law_121 rfl (lv_at hl 3 rfl) ?_
          refine lv_bipush (v := nI 15) hx hb dL_law_122 (by decide) ?_
          refine kx_irem hx hb (by omega) (by omega) (by omega) dL_law_124 ?_
          refine lv_bipush (v := nI 11) hx hb dL_law_125 (by decide) ?_
          refine kx_icmp_ne (tgt := 139) hx hb (by omega) (by decide) dL_law_127 (by decide) (fun c139 => ?_) (fun c139 => ?_)
          · skip
            refine kx_iinc (a := i) (lv' := [(3, .int (nI (i + 1))), (0, .ref b), (1, .ref (L 0 0)), (2, .ref dd)]) hx hb dL_law_139 hl (k := 3) rfl (by decide) rfl (fun ls hl => ?_)
            refine lv_goto (tgt := 62) hx hb dL_law_142 (by decide) ?_
            refine W.widen (k := 139 + (i + 1)) (n := 2296 + 4 * (i + 1)) (by omega) (by omega) ?_
            exact ih (i + 1) (by omega) (by omega) u101.1.1 u101.1.2.1 u101.1.2.2.1 u101.1.2.2.2 u101.2 H locs ls hI103 hC104 hP hD hS (lv_sub hl [1, 2, 3, 0] rfl)
          · skip
            refine lv_aload_n hx hb dL_law_130 rfl (lv_at hl 1 rfl) ?_
            have hPc : va_P D vwCl (pm_cl y L u101.1.1 u101.1.2.1 u101.1.2.2.1 u101.1.2.2.2 Gs sv U) H := pq_cut hP
            refine vp_callSi (W.runS (As := [.ref (L 0 0)]) (rest := []) ⟨hx, hb, hml, hown, hts⟩ (k_L_areEditors l D y L u101.1.1 u101.1.2.1 u101.1.2.2.1 u101.1.2.2.2 Gs sv U hI103) (va_cwS 1 hts gL_law_L_areEditors rfl rfl rfl hd_L_areEditors ⟨Nat.le_of_ble_eq_true rfl, Nat.le_of_ble_eq_true rfl⟩) ⟨pm_ron_blind, pm_ron_pre hPc hK hN⟩ rfl rfl hl.1 rfl (lv_room (Nat.le_of_ble_eq_true rfl)) dL_law_131 ⟨by show _ ≤ 600000; omega, by show _ ≤ 7302250; omega⟩) (fun r140 h141 => ?_)
            obtain rfl : r140 = nI 1 := h141
            refine lv_if_ne (tgt := 139) hx hb dL_law_134 (by decide) (fun _ => ?_) (fun c146 => absurd c146 (by decide))
            refine kx_iinc (a := i) (lv' := [(3, .int (nI (i + 1))), (0, .ref b), (1, .ref (L 0 0)), (2, .ref dd)]) hx hb dL_law_139 hl (k := 3) rfl (by decide) rfl (fun ls hl => ?_)
            refine lv_goto (tgt := 62) hx hb dL_law_142 (by decide) ?_
            refine W.widen (k := 139 + (i + 1)) (n := 2296 + 4 * (i + 1)) (by omega) (by omega) ?_
            exact ih (i + 1) (by omega) (by omega) u101.1.1 u101.1.2.1 u101.1.2.2.1 u101.1.2.2.2 u101.2 H locs ls hI103 hC104 hP hD hS (lv_sub hl [1, 2, 3, 0] rfl)
        · skip
          refine lv_aload_n hx hb dL_law_114 rfl (lv_at hl 1 rfl) ?_
          have hPc : va_P D vwCl (pm_cl y L u101.1.1 u101.1.2.1 u101.1.2.2.1 u101.1.2.2.2 Gs sv U) H := pq_cut hP
          refine vp_callSi (W.runS (As := [.ref (L 0 0)]) (rest := []) ⟨hx, hb, hml, hown, hts⟩ (k_L_areChosen l D y L u101.1.1 u101.1.2.1 u101.1.2.2.1 u101.1.2.2.2 Gs sv U hI103) (va_cwS 1 hts gL_law_L_areChosen rfl rfl rfl hd_L_areChosen ⟨Nat.le_of_ble_eq_true rfl, Nat.le_of_ble_eq_true rfl⟩) ⟨pm_ron_blind, pm_ron_pre hPc hK hN⟩ rfl rfl hl.1 rfl (lv_room (Nat.le_of_ble_eq_true rfl)) dL_law_115 ⟨by show _ ≤ 600000; omega, by show _ ≤ 7302250; omega⟩) (fun r147 h148 => ?_)
          obtain rfl : r147 = nI 1 := h148
          refine lv_if_eq (tgt := 137) hx hb dL_law_118 (by decide) (fun c153 => absurd c153 (by decide)) (fun _ => ?_)
          refine lv_iload_n hx hb dL_law_121 rfl (lv_at hl 3 rfl) ?_
          refine lv_bipush (v := nI 15) hx hb dL_law_122 (by decide) ?_
          refine kx_irem hx hb (by omega) (by omega) (by omega) dL_law_124 ?_
          refine lv_bipush (v := nI 11) hx hb dL_law_125 (by decide) ?_
          refine kx_icmp_ne (tgt := 139) hx hb (by omega) (by decide) dL_law_127 (by decide) (fun c154 => ?_) (fun c154 => ?_)
          · skip
            refine kx_iinc (a := i) (lv' := [(3, .int (nI (i + 1))), (0, .ref b), (1, .ref (L 0 0)), (2, .ref dd)]) hx hb dL_law_139 hl (k := 3) rfl (by decide) rfl (fun ls hl => ?_)
            refine lv_goto (tgt := 62) hx hb dL_law_142 (by decide) ?_
            refine W.widen (k := 139 + (i + 1)) (n := 2296 + 4 * (i + 1)) (by omega) (by omega) ?_
            exact ih (i + 1) (by omega) (by omega) u101.1.1 u101.1.2.1 u101.1.2.2.1 u101.1.2.2.2 u101.2 H locs ls hI103 hC104 hP hD hS (lv_sub hl [1, 2, 3, 0] rfl)
          · skip
            refine lv_aload_n hx hb dL_law_130 rfl (lv_at hl 1 rfl) ?_
            have hPc : va_P D vwCl (pm_cl y L u101.1.1 u101.1.2.1 u101.1.2.2.1 u101.1.2.2.2 Gs sv U) H := pq_cut hP
            refine vp_callSi (W.runS (As := [.ref (L 0 0)]) (rest := []) ⟨hx, hb, hml, hown, hts⟩ (k_L_areEditors l D y L u101.1.1 u101.1.2.1 u101.1.2.2.1 u101.1.2.2.2 Gs sv U hI103) (va_cwS 1 hts gL_law_L_areEditors rfl rfl rfl hd_L_areEditors ⟨Nat.le_of_ble_eq_true rfl, Nat.le_of_ble_eq_true rfl⟩) ⟨pm_ron_blind, pm_ron_pre hPc hK hN⟩ rfl rfl hl.1 rfl (lv_room (Nat.le_of_ble_eq_true rfl)) dL_law_131 ⟨by show _ ≤ 600000; omega, by show _ ≤ 7302250; omega⟩) (fun r155 h156 => ?_)
            obtain rfl : r155 = nI 1 := h156
            refine lv_if_ne (tgt := 139) hx hb dL_law_134 (by decide) (fun _ => ?_) (fun c161 => absurd c161 (by decide))
            refine kx_iinc (a := i) (lv' := [(3, .int (nI (i + 1))), (0, .ref b), (1, .ref (L 0 0)), (2, .ref dd)]) hx hb dL_law_139 hl (k := 3) rfl (by decide) rfl (fun ls hl => ?_)
            refine lv_goto (tgt := 62) hx hb dL_law_142 (by decide) ?_
            refine W.widen (k := 139 + (i + 1)) (n := 2296 + 4 * (i + 1)) (by omega) (by omega) ?_
            exact ih (i + 1) (by omega) (by omega) u101.1.1 u101.1.2.1 u101.1.2.2.1 u101.1.2.2.2 u101.2 H locs ls hI103 hC104 hP hD hS (lv_sub hl [1, 2, 3, 0] rfl)

theorem pm_born3 : ∀ j, j < 5 → defaultValue (tyX3 j) = vp_V [.null, .null, .null, .null, .null] j := by
  intro j hj
  rcases (show j = 0 ∨ j = 1 ∨ j = 2 ∨ j = 3 ∨ j = 4 by omega) with rfl | rfl | rfl | rfl | rfl <;> rfl
theorem pm_nl_in : ∀ q ∈ pm_nl, Cond.fieldLinkNest "ProofMarks" q.1 q.2.1 q.2.2.1 q.2.2.2 "ProofMarks" ∈ lw_tbl := by decide +kernel
theorem pm_st4 {args : Array Value} {s : State} {nm : String} {f : Nat → Nat} {A : Nat → Prop} (harr : (Cond.arrayOf (.static "ProofMarks$Sheet" nm "[I") .int).before args s = true) (hlen : (Cond.eq (.length (.static "ProofMarks$Sheet" nm "[I")) (.int 4)).before args s = true) (h0 : (Cond.eq (.elem (.static "ProofMarks$Sheet" nm "[I") (.int 0)) (.int (nI (f 0)))).before args s = true) (h1 : (Cond.eq (.elem (.static "ProofMarks$Sheet" nm "[I") (.int 1)) (.int (nI (f 1)))).before args s = true) (h2 : (Cond.eq (.elem (.static "ProofMarks$Sheet" nm "[I") (.int 2)) (.int (nI (f 2)))).before args s = true) (h3 : (Cond.eq (.elem (.static "ProofMarks$Sheet" nm "[I") (.int 3)) (.int (nI (f 3)))).before args s = true) (hl : (Cond.laysStatic "ProofMarks$Sheet" nm "[I").before args s = true) (hini : (Cond.initialized "ProofMarks$Sheet").before args s = true) (hA : ∀ a : Nat, a < s.heap.size → ¬ A a) : ∃ t : Nat, va_Z "ProofMarks$Sheet" nm "[I" (.ref t) A s s.heap ∧ va_T .int t 4 (fun j => .int (nI (f j))) A s s.heap := by
  obtain ⟨t, ht, hT⟩ := va_Tof (tm := .static "ProofMarks$Sheet" nm "[I") (ty := .int) (N := 4) (f := fun j => .int (nI (f j))) (A := A) (by decide) harr (va_eqt hlen) (fun j hj => by
    rcases (show j = 0 ∨ j = 1 ∨ j = 2 ∨ j = 3 by omega) with rfl | rfl | rfl | rfl
    · exact va_eqt h0
    · exact va_eqt h1
    · exact va_eqt h2
    · exact va_eqt h3) hA
  exact ⟨t, va_Zref hl hini ht hA, hT⟩
theorem pm_arrI {args : Array Value} {s : State} (h : (Cond.arrayClass .int).before args s = true) : ∃ cA : ClassId, ArrOfT s cA .int ∧ va_RA s cA .int := by
  obtain ⟨cA, kA, comp, h1, h2, h3⟩ := Cond.arrayClass_spec h
  exact ⟨cA, fun n z => ⟨(fun k hh => by cases hh), kA, h2, comp, h3⟩, h1⟩
theorem pm_arrC {args : Array Value} {s : State} (h : (Cond.arrayClass .char).before args s = true) : ∃ cA : ClassId, ArrOfT s cA .char ∧ va_RA s cA .char := by
  obtain ⟨cA, kA, comp, h1, h2, h3⟩ := Cond.arrayClass_spec h
  exact ⟨cA, fun n z => ⟨(fun k hh => by cases hh), kA, h2, comp, h3⟩, h1⟩
theorem pm_arrZ {args : Array Value} {s : State} (h : (Cond.arrayClass .boolean).before args s = true) : ∃ cA : ClassId, ArrOfT s cA .boolean ∧ va_RA s cA .boolean := by
  obtain ⟨cA, kA, comp, h1, h2, h3⟩ := Cond.arrayClass_spec h
  exact ⟨cA, fun n z => ⟨(fun k hh => by cases hh), kA, h2, comp, h3⟩, h1⟩
theorem pm_arrQ {args : Array Value} {s : State} (h : (Cond.arrayOver (.object RX2)).before args s = true) : ∃ cA : ClassId, ArrOfT s cA (.object RX2) ∧ va_RA s cA (.object RX2) := by
  obtain ⟨comp, cA, kA, h1, h2, h3, h4, h5⟩ := Cond.arrayOver_spec h
  exact ⟨cA, fun n z => ⟨(fun k hh => by cases hh), kA, h3, comp, h4⟩, kA, comp, h3, h4, h1, h5⟩
