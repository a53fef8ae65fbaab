set_option maxHeartbeats 4000000 in
set_option maxRecDepth 100000 in
theorem law_c0 {p : Program} {l : Launch} {e : Env} {s : State} {m : MethodId} {below : List Frame} {meth : Method} {c : Code} {D : va_G} {y : Nat → ClassId} {b : Nat} {L tl tm : Nat} {xs : Nat → Int32} (hL : L ≤ 2048) (C0 : lw_At p s m meth c b L xs) (hK : va_K D vwCl (pm_ty y) s) (hN : pm_NW s) (hT : pm_ST (fun q : Nat => s.heap.size ≤ q) tl tm s) {Ly : Nat → Nat → Nat} {qm : Nat → Nat} {i : Nat} (hi : i + 4 ≤ L) (GO : pm_Go p l e s m below meth c D y b Ly qm i 729) : pm_Go p l e s m below meth c D y b Ly qm i 140 := by
  intro S Bs pi kn Gs sv U gp gs Hs Sl H locs ls hLI hP hD hS hl
  obtain ⟨hx, hb, hr, hml, hown, hts0, hX, hbl, hlocks, hgv⟩ := C0
  have hown : s.vm.findClass RL = some m.cls := hown
  have hts : ∀ w ∈ wsL_law, w.before #[Value.ref b] s = true := fun w hw => hts0 w (wsL_law_in w hw)
  have hbA : ¬ (fun q : Nat => s.heap.size ≤ q) b := Nat.not_le.mpr hbl
  obtain ⟨hI, hC, hM, hMS, hIH, hIS, hsv, hPI⟩ := id hLI
  refine lv_aload_n hx hb dL_law_140 rfl (lv_at hl 1 rfl) ?_
  refine lv_aload_n hx hb dL_law_141 rfl (lv_at hl 0 rfl) ?_
  refine lv_iload_n hx hb dL_law_142 rfl (lv_at hl 3 rfl) ?_
  refine lv_iconst (v := nI 1) hx hb dL_law_143 (by decide) ?_
  refine kx_iadd hx hb dL_law_144 ?_
  refine va_sld hx hb hX hbl hbA hS (vp_in_nI (show i + 1 < L by omega) (by omega)) dL_law_145 ?_
  refine lv_aload_n hx hb dL_law_146 rfl (lv_at hl 0 rfl) ?_
  refine lv_iload_n hx hb dL_law_147 rfl (lv_at hl 3 rfl) ?_
  refine lv_iconst (v := nI 2) hx hb dL_law_148 (by decide) ?_
  refine kx_iadd hx hb dL_law_149 ?_
  refine va_sld hx hb hX hbl hbA hS (vp_in_nI (show i + 2 < L by omega) (by omega)) dL_law_150 ?_
  have hP : va_P D vwCl ([] ++ (pm_cl y Ly S Bs pi kn Gs sv U ++ (pm_mo y qm S gp gs kn U.2.1 sv U.1 ++ []))) _ := hP
  have hD : va_D _ ([] ++ (pm_cl y Ly S Bs pi kn Gs sv U ++ (pm_mo y qm S gp gs kn U.2.1 sv U.1 ++ []))) := hD
  have hPc := pm_cutP hP
  have hDc := pm_cutD hD
  refine va_calli (va_runV (As := [.int (xs (nI (i + 1)).toNatClampNeg), .int (xs (nI (i + 2)).toNatClampNeg)]) (rest := []) ⟨hx, hb, hml, hown, hts⟩ (k_X3_set l D y Ly S Bs pi kn Gs sv U Hs Sl tl tm (xs (nI (i + 1)).toNatClampNeg) (xs (nI (i + 2)).toNatClampNeg) hC hI) (cwV 2 hts gL_law_X3_set rfl rfl rfl hd_X3_set ⟨Nat.le_of_ble_eq_true rfl, Nat.le_of_ble_eq_true rfl⟩) ⟨pm_wrs_blind, va_recv hK hPc (ci := 3) (q0 := 0) rfl rfl, pm_wrs_pre (H0 := s.heap) hPc hK hDc (fun q h9 => h9) hS hT⟩ rfl rfl hl.1 rfl (lv_room (Nat.le_of_ble_eq_true rfl)) dL_law_151 ⟨Nat.le_of_ble_eq_true rfl, Nat.le_of_ble_eq_true rfl⟩) hS (fun q _ h9 => pm_ad_all hDc q h9) (pm_ad_all hDc) (fun r7 u9 t9 H1 locs ht9 _ h7 hB9 _ hk9 hS => ?_)
  obtain ⟨hP, hD⟩ := pm_mid (w' := pm_cl y Ly ((pm_aSet S (xs (nI (i + 1)).toNatClampNeg) (xs (nI (i + 2)).toNatClampNeg)).2) (pm_ub Bs (pi kn) S) (pm_rp pi kn (pm_aSet S (xs (nI (i + 1)).toNatClampNeg) (xs (nI (i + 2)).toNatClampNeg)).1) (pm_rk kn (pm_aSet S (xs (nI (i + 1)).toNatClampNeg) (xs (nI (i + 2)).toNatClampNeg)).1) Gs sv U) hP hD hk9 (by rw [← ht9]; exact hB9) (pm_cl_fst ..)
  clear hk9 hB9 ht9 hPc hDc
  generalize H1 = H at hP hS ⊢
  refine lv_aload_n hx hb dL_law_154 rfl (lv_at hl 2 rfl) ?_
  refine lv_aload_n hx hb dL_law_155 rfl (lv_at hl 0 rfl) ?_
  refine lv_iload_n hx hb dL_law_156 rfl (lv_at hl 3 rfl) ?_
  refine lv_iconst (v := nI 1) hx hb dL_law_157 (by decide) ?_
  refine kx_iadd hx hb dL_law_158 ?_
  refine va_sld hx hb hX hbl hbA hS (vp_in_nI (show i + 1 < L by omega) (by omega)) dL_law_159 ?_
  refine lv_aload_n hx hb dL_law_160 rfl (lv_at hl 0 rfl) ?_
  refine lv_iload_n hx hb dL_law_161 rfl (lv_at hl 3 rfl) ?_
  refine lv_iconst (v := nI 2) hx hb dL_law_162 (by decide) ?_
  refine kx_iadd hx hb dL_law_163 ?_
  refine va_sld hx hb hX hbl hbA hS (vp_in_nI (show i + 2 < L by omega) (by omega)) dL_law_164 ?_
  have hP : va_P D vwCl (pm_cl y Ly ((pm_aSet S (xs (nI (i + 1)).toNatClampNeg) (xs (nI (i + 2)).toNatClampNeg)).2) (pm_ub Bs (pi kn) S) (pm_rp pi kn (pm_aSet S (xs (nI (i + 1)).toNatClampNeg) (xs (nI (i + 2)).toNatClampNeg)).1) (pm_rk kn (pm_aSet S (xs (nI (i + 1)).toNatClampNeg) (xs (nI (i + 2)).toNatClampNeg)).1) Gs sv U ++ (pm_mo y qm S gp gs kn U.2.1 sv U.1 ++ [])) _ := hP
  have hD : va_D _ (pm_cl y Ly ((pm_aSet S (xs (nI (i + 1)).toNatClampNeg) (xs (nI (i + 2)).toNatClampNeg)).2) (pm_ub Bs (pi kn) S) (pm_rp pi kn (pm_aSet S (xs (nI (i + 1)).toNatClampNeg) (xs (nI (i + 2)).toNatClampNeg)).1) (pm_rk kn (pm_aSet S (xs (nI (i + 1)).toNatClampNeg) (xs (nI (i + 2)).toNatClampNeg)).1) Gs sv U ++ (pm_mo y qm S gp gs kn U.2.1 sv U.1 ++ [])) := hD
  have hPc := pm_cutP hP
  have hDc := pm_cutD hD
  refine va_calli (va_runV (As := [.int (xs (nI (i + 1)).toNatClampNeg), .int (xs (nI (i + 2)).toNatClampNeg)]) (rest := [.int r7]) ⟨hx, hb, hml, hown, hts⟩ (k_X4_set l D y qm S gp gs kn U.2.1 sv U.1 Hs (xs (nI (i + 1)).toNatClampNeg) (xs (nI (i + 2)).toNatClampNeg) hI hC.2.2.1 hM) (cwV 2 hts gL_law_X4_set rfl rfl rfl hd_X4_set ⟨Nat.le_of_ble_eq_true rfl, Nat.le_of_ble_eq_true rfl⟩) ⟨pm_wr_blind, va_recv hK hPc (ci := 4) (q0 := 0) rfl rfl, pm_wr_pre hPc hK hDc⟩ rfl rfl hl.1 rfl (lv_room (Nat.le_of_ble_eq_true rfl)) dL_law_165 ⟨Nat.le_of_ble_eq_true rfl, Nat.le_of_ble_eq_true rfl⟩) hS (fun q _ h9 => pm_ad_all hDc q h9) (pm_ad_all hDc) (fun r8 u8 t9 H1 locs ht9 _ h8 hB9 _ hk9 hS => ?_)
  obtain ⟨hP, hD⟩ := pm_mid (w' := pm_mo y qm ((pm_aSet S (xs (nI (i + 1)).toNatClampNeg) (xs (nI (i + 2)).toNatClampNeg)).2) u8 gs (pm_k2 (pm_aSet S (xs (nI (i + 1)).toNatClampNeg) (xs (nI (i + 2)).toNatClampNeg)).1 kn) U.2.1 sv U.1) hP hD hk9 (by rw [← ht9]; exact hB9) rfl
  clear hk9 hB9 ht9 hPc hDc
  generalize H1 = H at hP hS ⊢
  refine lv_icmp_eq (tgt := 729) hx hb dL_law_168 (by decide) (fun _ => ?_) (fun c1 => absurd (h7.trans h8.1.symm) c1)
  exact GO ((pm_aSet S (xs (nI (i + 1)).toNatClampNeg) (xs (nI (i + 2)).toNatClampNeg)).2) (pm_ub Bs (pi kn) S) (pm_rp pi kn (pm_aSet S (xs (nI (i + 1)).toNatClampNeg) (xs (nI (i + 2)).toNatClampNeg)).1) (pm_rk kn (pm_aSet S (xs (nI (i + 1)).toNatClampNeg) (xs (nI (i + 2)).toNatClampNeg)).1) Gs sv U u8 gs (pm_h2 (pm_aSet S (xs (nI (i + 1)).toNatClampNeg) (xs (nI (i + 2)).toNatClampNeg)).1 Hs kn S) Sl _ _ ls (pm_LI_chg (pm_aSet S (xs (nI (i + 1)).toNatClampNeg) (xs (nI (i + 2)).toNatClampNeg)).1 hLI (pm_aSet_inv hI _ _) h8.2) hP hD hS hl

set_option maxHeartbeats 4000000 in
set_option maxRecDepth 100000 in
theorem law_c1 {p : Program} {l : Launch} {e : Env} {s : State} {m : MethodId} {below : List Frame} {meth : Method} {c : Code} {D : va_G} {y : Nat → ClassId} {b : Nat} {L tl tm : Nat} {xs : Nat → Int32} (hL : L ≤ 2048) (C0 : lw_At p s m meth c b L xs) (hK : va_K D vwCl (pm_ty y) s) (hN : pm_NW s) (hT : pm_ST (fun q : Nat => s.heap.size ≤ q) tl tm s) {Ly : Nat → Nat → Nat} {qm : Nat → Nat} {i : Nat} (hi : i + 4 ≤ L) (GO : pm_Go p l e s m below meth c D y b Ly qm i 729) : pm_Go p l e s m below meth c D y b Ly qm i 173 := by
  intro S Bs pi kn Gs sv U gp gs Hs Sl H locs ls hLI hP hD hS hl
  obtain ⟨hx, hb, hr, hml, hown, hts0, hX, hbl, hlocks, hgv⟩ := C0
  have hown : s.vm.findClass RL = some m.cls := hown
  have hts : ∀ w ∈ wsL_law, w.before #[Value.ref b] s = true := fun w hw => hts0 w (wsL_law_in w hw)
  have hbA : ¬ (fun q : Nat => s.heap.size ≤ q) b := Nat.not_le.mpr hbl
  obtain ⟨hI, hC, hM, hMS, hIH, hIS, hsv, hPI⟩ := id hLI
  refine lv_aload_n hx hb dL_law_173 rfl (lv_at hl 1 rfl) ?_
  refine lv_aload_n hx hb dL_law_174 rfl (lv_at hl 0 rfl) ?_
  refine lv_iload_n hx hb dL_law_175 rfl (lv_at hl 3 rfl) ?_
  refine lv_iconst (v := nI 1) hx hb dL_law_176 (by decide) ?_
  refine kx_iadd hx hb dL_law_177 ?_
  refine va_sld hx hb hX hbl hbA hS (vp_in_nI (show i + 1 < L by omega) (by omega)) dL_law_178 ?_
  refine lv_aload_n hx hb dL_law_179 rfl (lv_at hl 0 rfl) ?_
  refine lv_iload_n hx hb dL_law_180 rfl (lv_at hl 3 rfl) ?_
  refine lv_iconst (v := nI 2) hx hb dL_law_181 (by decide) ?_
  refine kx_iadd hx hb dL_law_182 ?_
  refine va_sld hx hb hX hbl hbA hS (vp_in_nI (show i + 2 < L by omega) (by omega)) dL_law_183 ?_
  refine lv_aload_n hx hb dL_law_184 rfl (lv_at hl 0 rfl) ?_
  refine lv_iload_n hx hb dL_law_185 rfl (lv_at hl 3 rfl) ?_
  refine lv_iconst (v := nI 3) hx hb dL_law_186 (by decide) ?_
  refine kx_iadd hx hb dL_law_187 ?_
  refine va_sld hx hb hX hbl hbA hS (vp_in_nI (show i + 3 < L by omega) (by omega)) dL_law_188 ?_
  have hP : va_P D vwCl ([] ++ (pm_cl y Ly S Bs pi kn Gs sv U ++ (pm_mo y qm S gp gs kn U.2.1 sv U.1 ++ []))) _ := hP
  have hD : va_D _ ([] ++ (pm_cl y Ly S Bs pi kn Gs sv U ++ (pm_mo y qm S gp gs kn U.2.1 sv U.1 ++ []))) := hD
  have hPc := pm_cutP hP
  have hDc := pm_cutD hD
  refine va_calli (va_runV (As := [.int (xs (nI (i + 1)).toNatClampNeg), .int (xs (nI (i + 2)).toNatClampNeg), .int (xs (nI (i + 3)).toNatClampNeg)]) (rest := []) ⟨hx, hb, hml, hown, hts⟩ (k_X3_mark l D y Ly S Bs pi kn Gs sv U Hs Sl (xs (nI (i + 1)).toNatClampNeg) (xs (nI (i + 2)).toNatClampNeg) (xs (nI (i + 3)).toNatClampNeg) hC hI) (cwV 3 hts gL_law_X3_mark rfl rfl rfl hd_X3_mark ⟨Nat.le_of_ble_eq_true rfl, Nat.le_of_ble_eq_true rfl⟩) ⟨pm_wr_blind, va_recv hK hPc (ci := 3) (q0 := 0) rfl rfl, pm_wr_pre hPc hK hDc⟩ rfl rfl hl.1 rfl (lv_room (Nat.le_of_ble_eq_true rfl)) dL_law_189 ⟨Nat.le_of_ble_eq_true rfl, Nat.le_of_ble_eq_true rfl⟩) hS (fun q _ h9 => pm_ad_all hDc q h9) (pm_ad_all hDc) (fun r7 u9 t9 H1 locs ht9 _ h7 hB9 _ hk9 hS => ?_)
  obtain ⟨hP, hD⟩ := pm_mid (w' := pm_cl y Ly ((pm_aMark S (xs (nI (i + 1)).toNatClampNeg) (xs (nI (i + 2)).toNatClampNeg) (xs (nI (i + 3)).toNatClampNeg)).2) (pm_ub Bs (pi kn) S) (pm_rp pi kn (pm_aMark S (xs (nI (i + 1)).toNatClampNeg) (xs (nI (i + 2)).toNatClampNeg) (xs (nI (i + 3)).toNatClampNeg)).1) (pm_rk kn (pm_aMark S (xs (nI (i + 1)).toNatClampNeg) (xs (nI (i + 2)).toNatClampNeg) (xs (nI (i + 3)).toNatClampNeg)).1) Gs sv U) hP hD hk9 (by rw [← ht9]; exact hB9) (pm_cl_fst ..)
  clear hk9 hB9 ht9 hPc hDc
  generalize H1 = H at hP hS ⊢
  refine lv_aload_n hx hb dL_law_192 rfl (lv_at hl 2 rfl) ?_
  refine lv_aload_n hx hb dL_law_193 rfl (lv_at hl 0 rfl) ?_
  refine lv_iload_n hx hb dL_law_194 rfl (lv_at hl 3 rfl) ?_
  refine lv_iconst (v := nI 1) hx hb dL_law_195 (by decide) ?_
  refine kx_iadd hx hb dL_law_196 ?_
  refine va_sld hx hb hX hbl hbA hS (vp_in_nI (show i + 1 < L by omega) (by omega)) dL_law_197 ?_
  refine lv_aload_n hx hb dL_law_198 rfl (lv_at hl 0 rfl) ?_
  refine lv_iload_n hx hb dL_law_199 rfl (lv_at hl 3 rfl) ?_
  refine lv_iconst (v := nI 2) hx hb dL_law_200 (by decide) ?_
  refine kx_iadd hx hb dL_law_201 ?_
  refine va_sld hx hb hX hbl hbA hS (vp_in_nI (show i + 2 < L by omega) (by omega)) dL_law_202 ?_
  refine lv_aload_n hx hb dL_law_203 rfl (lv_at hl 0 rfl) ?_
  refine lv_iload_n hx hb dL_law_204 rfl (lv_at hl 3 rfl) ?_
  refine lv_iconst (v := nI 3) hx hb dL_law_205 (by decide) ?_
  refine kx_iadd hx hb dL_law_206 ?_
  refine va_sld hx hb hX hbl hbA hS (vp_in_nI (show i + 3 < L by omega) (by omega)) dL_law_207 ?_
  have hP : va_P D vwCl (pm_cl y Ly ((pm_aMark S (xs (nI (i + 1)).toNatClampNeg) (xs (nI (i + 2)).toNatClampNeg) (xs (nI (i + 3)).toNatClampNeg)).2) (pm_ub Bs (pi kn) S) (pm_rp pi kn (pm_aMark S (xs (nI (i + 1)).toNatClampNeg) (xs (nI (i + 2)).toNatClampNeg) (xs (nI (i + 3)).toNatClampNeg)).1) (pm_rk kn (pm_aMark S (xs (nI (i + 1)).toNatClampNeg) (xs (nI (i + 2)).toNatClampNeg) (xs (nI (i + 3)).toNatClampNeg)).1) Gs sv U ++ (pm_mo y qm S gp gs kn U.2.1 sv U.1 ++ [])) _ := hP
  have hD : va_D _ (pm_cl y Ly ((pm_aMark S (xs (nI (i + 1)).toNatClampNeg) (xs (nI (i + 2)).toNatClampNeg) (xs (nI (i + 3)).toNatClampNeg)).2) (pm_ub Bs (pi kn) S) (pm_rp pi kn (pm_aMark S (xs (nI (i + 1)).toNatClampNeg) (xs (nI (i + 2)).toNatClampNeg) (xs (nI (i + 3)).toNatClampNeg)).1) (pm_rk kn (pm_aMark S (xs (nI (i + 1)).toNatClampNeg) (xs (nI (i + 2)).toNatClampNeg) (xs (nI (i + 3)).toNatClampNeg)).1) Gs sv U ++ (pm_mo y qm S gp gs kn U.2.1 sv U.1 ++ [])) := hD
  have hPc := pm_cutP hP
  have hDc := pm_cutD hD
  refine va_calli (va_runV (As := [.int (xs (nI (i + 1)).toNatClampNeg), .int (xs (nI (i + 2)).toNatClampNeg), .int (xs (nI (i + 3)).toNatClampNeg)]) (rest := [.int r7]) ⟨hx, hb, hml, hown, hts⟩ (k_X4_mark l D y qm S gp gs kn U.2.1 sv U.1 Hs (xs (nI (i + 1)).toNatClampNeg) (xs (nI (i + 2)).toNatClampNeg) (xs (nI (i + 3)).toNatClampNeg) hI hC.2.2.1 hM) (cwV 3 hts gL_law_X4_mark rfl rfl rfl hd_X4_mark ⟨Nat.le_of_ble_eq_true rfl, Nat.le_of_ble_eq_true rfl⟩) ⟨pm_wr_blind, va_recv hK hPc (ci := 4) (q0 := 0) rfl rfl, pm_wr_pre hPc hK hDc⟩ rfl rfl hl.1 rfl (lv_room (Nat.le_of_ble_eq_true rfl)) dL_law_208 ⟨Nat.le_of_ble_eq_true rfl, Nat.le_of_ble_eq_true rfl⟩) hS (fun q _ h9 => pm_ad_all hDc q h9) (pm_ad_all hDc) (fun r8 u8 t9 H1 locs ht9 _ h8 hB9 _ hk9 hS => ?_)
  obtain ⟨hP, hD⟩ := pm_mid (w' := pm_mo y qm ((pm_aMark S (xs (nI (i + 1)).toNatClampNeg) (xs (nI (i + 2)).toNatClampNeg) (xs (nI (i + 3)).toNatClampNeg)).2) u8 gs (pm_k2 (pm_aMark S (xs (nI (i + 1)).toNatClampNeg) (xs (nI (i + 2)).toNatClampNeg) (xs (nI (i + 3)).toNatClampNeg)).1 kn) U.2.1 sv U.1) hP hD hk9 (by rw [← ht9]; exact hB9) rfl
  clear hk9 hB9 ht9 hPc hDc
  generalize H1 = H at hP hS ⊢
  refine lv_icmp_eq (tgt := 729) hx hb dL_law_211 (by decide) (fun _ => ?_) (fun c1 => absurd (h7.trans h8.1.symm) c1)
  exact GO ((pm_aMark S (xs (nI (i + 1)).toNatClampNeg) (xs (nI (i + 2)).toNatClampNeg) (xs (nI (i + 3)).toNatClampNeg)).2) (pm_ub Bs (pi kn) S) (pm_rp pi kn (pm_aMark S (xs (nI (i + 1)).toNatClampNeg) (xs (nI (i + 2)).toNatClampNeg) (xs (nI (i + 3)).toNatClampNeg)).1) (pm_rk kn (pm_aMark S (xs (nI (i + 1)).toNatClampNeg) (xs (nI (i + 2)).toNatClampNeg) (xs (nI (i + 3)).toNatClampNeg)).1) Gs sv U u8 gs (pm_h2 (pm_aMark S (xs (nI (i + 1)).toNatClampNeg) (xs (nI (i + 2)).toNatClampNeg) (xs (nI (i + 3)).toNatClampNeg)).1 Hs kn S) Sl _ _ ls (pm_LI_chg (pm_aMark S (xs (nI (i + 1)).toNatClampNeg) (xs (nI (i + 2)).toNatClampNeg) (xs (nI (i + 3)).toNatClampNeg)).1 hLI (pm_aMark_inv hI _ _ _) h8.2) hP hD hS hl

set_option maxHeartbeats 4000000 in
set_option maxRecDepth 100000 in
theorem law_c2 {p : Program} {l : Launch} {e : Env} {s : State} {m : MethodId} {below : List Frame} {meth : Method} {c : Code} {D : va_G} {y : Nat → ClassId} {b : Nat} {L tl tm : Nat} {xs : Nat → Int32} (hL : L ≤ 2048) (C0 : lw_At p s m meth c b L xs) (hK : va_K D vwCl (pm_ty y) s) (hN : pm_NW s) (hT : pm_ST (fun q : Nat => s.heap.size ≤ q) tl tm s) {Ly : Nat → Nat → Nat} {qm : Nat → Nat} {i : Nat} (hi : i + 4 ≤ L) (GO : pm_Go p l e s m below meth c D y b Ly qm i 729) : pm_Go p l e s m below meth c D y b Ly qm i 216 := by
  intro S Bs pi kn Gs sv U gp gs Hs Sl H locs ls hLI hP hD hS hl
  obtain ⟨hx, hb, hr, hml, hown, hts0, hX, hbl, hlocks, hgv⟩ := C0
  have hown : s.vm.findClass RL = some m.cls := hown
  have hts : ∀ w ∈ wsL_law, w.before #[Value.ref b] s = true := fun w hw => hts0 w (wsL_law_in w hw)
  have hbA : ¬ (fun q : Nat => s.heap.size ≤ q) b := Nat.not_le.mpr hbl
  obtain ⟨hI, hC, hM, hMS, hIH, hIS, hsv, hPI⟩ := id hLI
  refine lv_aload_n hx hb dL_law_216 rfl (lv_at hl 1 rfl) ?_
  refine lv_aload_n hx hb dL_law_217 rfl (lv_at hl 0 rfl) ?_
  refine lv_iload_n hx hb dL_law_218 rfl (lv_at hl 3 rfl) ?_
  refine lv_iconst (v := nI 1) hx hb dL_law_219 (by decide) ?_
  refine kx_iadd hx hb dL_law_220 ?_
  refine va_sld hx hb hX hbl hbA hS (vp_in_nI (show i + 1 < L by omega) (by omega)) dL_law_221 ?_
  refine lv_aload_n hx hb dL_law_222 rfl (lv_at hl 0 rfl) ?_
  refine lv_iload_n hx hb dL_law_223 rfl (lv_at hl 3 rfl) ?_
  refine lv_iconst (v := nI 2) hx hb dL_law_224 (by decide) ?_
  refine kx_iadd hx hb dL_law_225 ?_
  refine va_sld hx hb hX hbl hbA hS (vp_in_nI (show i + 2 < L by omega) (by omega)) dL_law_226 ?_
  refine lv_aload_n hx hb dL_law_227 rfl (lv_at hl 0 rfl) ?_
  refine lv_iload_n hx hb dL_law_228 rfl (lv_at hl 3 rfl) ?_
  refine lv_iconst (v := nI 3) hx hb dL_law_229 (by decide) ?_
  refine kx_iadd hx hb dL_law_230 ?_
  refine va_sld hx hb hX hbl hbA hS (vp_in_nI (show i + 3 < L by omega) (by omega)) dL_law_231 ?_
  have hP : va_P D vwCl ([] ++ (pm_cl y Ly S Bs pi kn Gs sv U ++ (pm_mo y qm S gp gs kn U.2.1 sv U.1 ++ []))) _ := hP
  have hD : va_D _ ([] ++ (pm_cl y Ly S Bs pi kn Gs sv U ++ (pm_mo y qm S gp gs kn U.2.1 sv U.1 ++ []))) := hD
  have hPc := pm_cutP hP
  have hDc := pm_cutD hD
  refine va_calli (va_runV (As := [.int (xs (nI (i + 1)).toNatClampNeg), .int (xs (nI (i + 2)).toNatClampNeg), .int (xs (nI (i + 3)).toNatClampNeg)]) (rest := []) ⟨hx, hb, hml, hown, hts⟩ (k_X3_argue l D y Ly S Bs pi kn Gs sv U Hs Sl (xs (nI (i + 1)).toNatClampNeg) (xs (nI (i + 2)).toNatClampNeg) (xs (nI (i + 3)).toNatClampNeg) hC hI) (cwV 3 hts gL_law_X3_argue rfl rfl rfl hd_X3_argue ⟨Nat.le_of_ble_eq_true rfl, Nat.le_of_ble_eq_true rfl⟩) ⟨pm_wr_blind, va_recv hK hPc (ci := 3) (q0 := 0) rfl rfl, pm_wr_pre hPc hK hDc⟩ rfl rfl hl.1 rfl (lv_room (Nat.le_of_ble_eq_true rfl)) dL_law_232 ⟨Nat.le_of_ble_eq_true rfl, Nat.le_of_ble_eq_true rfl⟩) hS (fun q _ h9 => pm_ad_all hDc q h9) (pm_ad_all hDc) (fun r7 u9 t9 H1 locs ht9 _ h7 hB9 _ hk9 hS => ?_)
  obtain ⟨hP, hD⟩ := pm_mid (w' := pm_cl y Ly ((pm_aArgue S (xs (nI (i + 1)).toNatClampNeg) (xs (nI (i + 2)).toNatClampNeg) (xs (nI (i + 3)).toNatClampNeg)).2) (pm_ub Bs (pi kn) S) (pm_rp pi kn (pm_aArgue S (xs (nI (i + 1)).toNatClampNeg) (xs (nI (i + 2)).toNatClampNeg) (xs (nI (i + 3)).toNatClampNeg)).1) (pm_rk kn (pm_aArgue S (xs (nI (i + 1)).toNatClampNeg) (xs (nI (i + 2)).toNatClampNeg) (xs (nI (i + 3)).toNatClampNeg)).1) Gs sv U) hP hD hk9 (by rw [← ht9]; exact hB9) (pm_cl_fst ..)
  clear hk9 hB9 ht9 hPc hDc
  generalize H1 = H at hP hS ⊢
  refine lv_aload_n hx hb dL_law_235 rfl (lv_at hl 2 rfl) ?_
  refine lv_aload_n hx hb dL_law_236 rfl (lv_at hl 0 rfl) ?_
  refine lv_iload_n hx hb dL_law_237 rfl (lv_at hl 3 rfl) ?_
  refine lv_iconst (v := nI 1) hx hb dL_law_238 (by decide) ?_
  refine kx_iadd hx hb dL_law_239 ?_
  refine va_sld hx hb hX hbl hbA hS (vp_in_nI (show i + 1 < L by omega) (by omega)) dL_law_240 ?_
  refine lv_aload_n hx hb dL_law_241 rfl (lv_at hl 0 rfl) ?_
  refine lv_iload_n hx hb dL_law_242 rfl (lv_at hl 3 rfl) ?_
  refine lv_iconst (v := nI 2) hx hb dL_law_243 (by decide) ?_
  refine kx_iadd hx hb dL_law_244 ?_
  refine va_sld hx hb hX hbl hbA hS (vp_in_nI (show i + 2 < L by omega) (by omega)) dL_law_245 ?_
  refine lv_aload_n hx hb dL_law_246 rfl (lv_at hl 0 rfl) ?_
  refine lv_iload_n hx hb dL_law_247 rfl (lv_at hl 3 rfl) ?_
  refine lv_iconst (v := nI 3) hx hb dL_law_248 (by decide) ?_
  refine kx_iadd hx hb dL_law_249 ?_
  refine va_sld hx hb hX hbl hbA hS (vp_in_nI (show i + 3 < L by omega) (by omega)) dL_law_250 ?_
  have hP : va_P D vwCl (pm_cl y Ly ((pm_aArgue S (xs (nI (i + 1)).toNatClampNeg) (xs (nI (i + 2)).toNatClampNeg) (xs (nI (i + 3)).toNatClampNeg)).2) (pm_ub Bs (pi kn) S) (pm_rp pi kn (pm_aArgue S (xs (nI (i + 1)).toNatClampNeg) (xs (nI (i + 2)).toNatClampNeg) (xs (nI (i + 3)).toNatClampNeg)).1) (pm_rk kn (pm_aArgue S (xs (nI (i + 1)).toNatClampNeg) (xs (nI (i + 2)).toNatClampNeg) (xs (nI (i + 3)).toNatClampNeg)).1) Gs sv U ++ (pm_mo y qm S gp gs kn U.2.1 sv U.1 ++ [])) _ := hP
  have hD : va_D _ (pm_cl y Ly ((pm_aArgue S (xs (nI (i + 1)).toNatClampNeg) (xs (nI (i + 2)).toNatClampNeg) (xs (nI (i + 3)).toNatClampNeg)).2) (pm_ub Bs (pi kn) S) (pm_rp pi kn (pm_aArgue S (xs (nI (i + 1)).toNatClampNeg) (xs (nI (i + 2)).toNatClampNeg) (xs (nI (i + 3)).toNatClampNeg)).1) (pm_rk kn (pm_aArgue S (xs (nI (i + 1)).toNatClampNeg) (xs (nI (i + 2)).toNatClampNeg) (xs (nI (i + 3)).toNatClampNeg)).1) Gs sv U ++ (pm_mo y qm S gp gs kn U.2.1 sv U.1 ++ [])) := hD
  have hPc := pm_cutP hP
  have hDc := pm_cutD hD
  refine va_calli (va_runV (As := [.int (xs (nI (i + 1)).toNatClampNeg), .int (xs (nI (i + 2)).toNatClampNeg), .int (xs (nI (i + 3)).toNatClampNeg)]) (rest := [.int r7]) ⟨hx, hb, hml, hown, hts⟩ (k_X4_argue l D y qm S gp gs kn U.2.1 sv U.1 Hs (xs (nI (i + 1)).toNatClampNeg) (xs (nI (i + 2)).toNatClampNeg) (xs (nI (i + 3)).toNatClampNeg) hI hC.2.2.1 hM) (cwV 3 hts gL_law_X4_argue rfl rfl rfl hd_X4_argue ⟨Nat.le_of_ble_eq_true rfl, Nat.le_of_ble_eq_true rfl⟩) ⟨pm_wr_blind, va_recv hK hPc (ci := 4) (q0 := 0) rfl rfl, pm_wr_pre hPc hK hDc⟩ rfl rfl hl.1 rfl (lv_room (Nat.le_of_ble_eq_true rfl)) dL_law_251 ⟨Nat.le_of_ble_eq_true rfl, Nat.le_of_ble_eq_true rfl⟩) hS (fun q _ h9 => pm_ad_all hDc q h9) (pm_ad_all hDc) (fun r8 u8 t9 H1 locs ht9 _ h8 hB9 _ hk9 hS => ?_)
  obtain ⟨hP, hD⟩ := pm_mid (w' := pm_mo y qm ((pm_aArgue S (xs (nI (i + 1)).toNatClampNeg) (xs (nI (i + 2)).toNatClampNeg) (xs (nI (i + 3)).toNatClampNeg)).2) u8 gs (pm_k2 (pm_aArgue S (xs (nI (i + 1)).toNatClampNeg) (xs (nI (i + 2)).toNatClampNeg) (xs (nI (i + 3)).toNatClampNeg)).1 kn) U.2.1 sv U.1) hP hD hk9 (by rw [← ht9]; exact hB9) rfl
  clear hk9 hB9 ht9 hPc hDc
  generalize H1 = H at hP hS ⊢
  refine lv_icmp_eq (tgt := 729) hx hb dL_law_254 (by decide) (fun _ => ?_) (fun c1 => absurd (h7.trans h8.1.symm) c1)
  exact GO ((pm_aArgue S (xs (nI (i + 1)).toNatClampNeg) (xs (nI (i + 2)).toNatClampNeg) (xs (nI (i + 3)).toNatClampNeg)).2) (pm_ub Bs (pi kn) S) (pm_rp pi kn (pm_aArgue S (xs (nI (i + 1)).toNatClampNeg) (xs (nI (i + 2)).toNatClampNeg) (xs (nI (i + 3)).toNatClampNeg)).1) (pm_rk kn (pm_aArgue S (xs (nI (i + 1)).toNatClampNeg) (xs (nI (i + 2)).toNatClampNeg) (xs (nI (i + 3)).toNatClampNeg)).1) Gs sv U u8 gs (pm_h2 (pm_aArgue S (xs (nI (i + 1)).toNatClampNeg) (xs (nI (i + 2)).toNatClampNeg) (xs (nI (i + 3)).toNatClampNeg)).1 Hs kn S) Sl _ _ ls (pm_LI_chg (pm_aArgue S (xs (nI (i + 1)).toNatClampNeg) (xs (nI (i + 2)).toNatClampNeg) (xs (nI (i + 3)).toNatClampNeg)).1 hLI (pm_aArgue_inv hI _ _ _) h8.2) hP hD hS hl

set_option maxHeartbeats 4000000 in
set_option maxRecDepth 100000 in
theorem law_c3 {p : Program} {l : Launch} {e : Env} {s : State} {m : MethodId} {below : List Frame} {meth : Method} {c : Code} {D : va_G} {y : Nat → ClassId} {b : Nat} {L tl tm : Nat} {xs : Nat → Int32} (hL : L ≤ 2048) (C0 : lw_At p s m meth c b L xs) (hK : va_K D vwCl (pm_ty y) s) (hN : pm_NW s) (hT : pm_ST (fun q : Nat => s.heap.size ≤ q) tl tm s) {Ly : Nat → Nat → Nat} {qm : Nat → Nat} {i : Nat} (hi : i + 4 ≤ L) (GO : pm_Go p l e s m below meth c D y b Ly qm i 729) : pm_Go p l e s m below meth c D y b Ly qm i 259 := by
  intro S Bs pi kn Gs sv U gp gs Hs Sl H locs ls hLI hP hD hS hl
  obtain ⟨hx, hb, hr, hml, hown, hts0, hX, hbl, hlocks, hgv⟩ := C0
  have hown : s.vm.findClass RL = some m.cls := hown
  have hts : ∀ w ∈ wsL_law, w.before #[Value.ref b] s = true := fun w hw => hts0 w (wsL_law_in w hw)
  have hbA : ¬ (fun q : Nat => s.heap.size ≤ q) b := Nat.not_le.mpr hbl
  obtain ⟨hI, hC, hM, hMS, hIH, hIS, hsv, hPI⟩ := id hLI
  refine lv_aload_n hx hb dL_law_259 rfl (lv_at hl 1 rfl) ?_
  have hP : va_P D vwCl ([] ++ (pm_cl y Ly S Bs pi kn Gs sv U ++ (pm_mo y qm S gp gs kn U.2.1 sv U.1 ++ []))) _ := hP
  have hD : va_D _ ([] ++ (pm_cl y Ly S Bs pi kn Gs sv U ++ (pm_mo y qm S gp gs kn U.2.1 sv U.1 ++ []))) := hD
  have hPc := pm_cutP hP
  have hDc := pm_cutD hD
  refine va_calli (va_runV (As := []) (rest := []) ⟨hx, hb, hml, hown, hts⟩ (k_X3_round l D y Ly S Bs pi kn Gs sv U Hs Sl hC hI) (cwV 0 hts gL_law_X3_round rfl rfl rfl hd_X3_round ⟨Nat.le_of_ble_eq_true rfl, Nat.le_of_ble_eq_true rfl⟩) ⟨pm_wr_blind, va_recv hK hPc (ci := 3) (q0 := 0) rfl rfl, pm_wr_pre hPc hK hDc⟩ rfl rfl hl.1 rfl (lv_room (Nat.le_of_ble_eq_true rfl)) dL_law_260 ⟨Nat.le_of_ble_eq_true rfl, Nat.le_of_ble_eq_true rfl⟩) hS (fun q _ h9 => pm_ad_all hDc q h9) (pm_ad_all hDc) (fun r7 u9 t9 H1 locs ht9 _ h7 hB9 _ hk9 hS => ?_)
  obtain ⟨hP, hD⟩ := pm_mid (w' := pm_cl y Ly ((pm_aRound S).2) (pm_ub Bs (pi kn) S) (pm_rp pi kn (pm_aRound S).1) (pm_rk kn (pm_aRound S).1) Gs sv U) hP hD hk9 (by rw [← ht9]; exact hB9) (pm_cl_fst ..)
  clear hk9 hB9 ht9 hPc hDc
  generalize H1 = H at hP hS ⊢
  refine lv_aload_n hx hb dL_law_263 rfl (lv_at hl 2 rfl) ?_
  have hP : va_P D vwCl (pm_cl y Ly ((pm_aRound S).2) (pm_ub Bs (pi kn) S) (pm_rp pi kn (pm_aRound S).1) (pm_rk kn (pm_aRound S).1) Gs sv U ++ (pm_mo y qm S gp gs kn U.2.1 sv U.1 ++ [])) _ := hP
  have hD : va_D _ (pm_cl y Ly ((pm_aRound S).2) (pm_ub Bs (pi kn) S) (pm_rp pi kn (pm_aRound S).1) (pm_rk kn (pm_aRound S).1) Gs sv U ++ (pm_mo y qm S gp gs kn U.2.1 sv U.1 ++ [])) := hD
  have hPc := pm_cutP hP
  have hDc := pm_cutD hD
  refine va_calli (va_runV (As := []) (rest := [.int r7]) ⟨hx, hb, hml, hown, hts⟩ (k_X4_round l D y qm S gp gs kn U.2.1 sv U.1 Hs hI hC.2.2.1 hM) (cwV 0 hts gL_law_X4_round rfl rfl rfl hd_X4_round ⟨Nat.le_of_ble_eq_true rfl, Nat.le_of_ble_eq_true rfl⟩) ⟨pm_wr_blind, va_recv hK hPc (ci := 4) (q0 := 0) rfl rfl, pm_wr_pre hPc hK hDc⟩ rfl rfl hl.1 rfl (lv_room (Nat.le_of_ble_eq_true rfl)) dL_law_264 ⟨Nat.le_of_ble_eq_true rfl, Nat.le_of_ble_eq_true rfl⟩) hS (fun q _ h9 => pm_ad_all hDc q h9) (pm_ad_all hDc) (fun r8 u8 t9 H1 locs ht9 _ h8 hB9 _ hk9 hS => ?_)
  obtain ⟨hP, hD⟩ := pm_mid (w' := pm_mo y qm ((pm_aRound S).2) u8 gs (pm_k2 (pm_aRound S).1 kn) U.2.1 sv U.1) hP hD hk9 (by rw [← ht9]; exact hB9) rfl
  clear hk9 hB9 ht9 hPc hDc
  generalize H1 = H at hP hS ⊢
  refine lv_icmp_eq (tgt := 729) hx hb dL_law_267 (by decide) (fun _ => ?_) (fun c1 => absurd (h7.trans h8.1.symm) c1)
  exact GO ((pm_aRound S).2) (pm_ub Bs (pi kn) S) (pm_rp pi kn (pm_aRound S).1) (pm_rk kn (pm_aRound S).1) Gs sv U u8 gs (pm_h2 (pm_aRound S).1 Hs kn S) Sl _ _ ls (pm_LI_chg (pm_aRound S).1 hLI (pm_aRound_inv hI) h8.2) hP hD hS hl

set_option maxHeartbeats 4000000 in
set_option maxRecDepth 100000 in
theorem law_c4 {p : Program} {l : Launch} {e : Env} {s : State} {m : MethodId} {below : List Frame} {meth : Method} {c : Code} {D : va_G} {y : Nat → ClassId} {b : Nat} {L tl tm : Nat} {xs : Nat → Int32} (hL : L ≤ 2048) (C0 : lw_At p s m meth c b L xs) (hK : va_K D vwCl (pm_ty y) s) (hN : pm_NW s) (hT : pm_ST (fun q : Nat => s.heap.size ≤ q) tl tm s) {Ly : Nat → Nat → Nat} {qm : Nat → Nat} {i : Nat} (hi : i + 4 ≤ L) (GO : pm_Go p l e s m below meth c D y b Ly qm i 729) : pm_Go p l e s m below meth c D y b Ly qm i 272 := by
  intro S Bs pi kn Gs sv U gp gs Hs Sl H locs ls hLI hP hD hS hl
  obtain ⟨hx, hb, hr, hml, hown, hts0, hX, hbl, hlocks, hgv⟩ := C0
  have hown : s.vm.findClass RL = some m.cls := hown
  have hts : ∀ w ∈ wsL_law, w.before #[Value.ref b] s = true := fun w hw => hts0 w (wsL_law_in w hw)
  have hbA : ¬ (fun q : Nat => s.heap.size ≤ q) b := Nat.not_le.mpr hbl
  obtain ⟨hI, hC, hM, hMS, hIH, hIS, hsv, hPI⟩ := id hLI
  refine lv_aload_n hx hb dL_law_272 rfl (lv_at hl 1 rfl) ?_
  refine lv_aload_n hx hb dL_law_273 rfl (lv_at hl 0 rfl) ?_
  refine lv_iload_n hx hb dL_law_274 rfl (lv_at hl 3 rfl) ?_
  refine lv_iconst (v := nI 1) hx hb dL_law_275 (by decide) ?_
  refine kx_iadd hx hb dL_law_276 ?_
  refine va_sld hx hb hX hbl hbA hS (vp_in_nI (show i + 1 < L by omega) (by omega)) dL_law_277 ?_
  refine lv_aload_n hx hb dL_law_278 rfl (lv_at hl 0 rfl) ?_
  refine lv_iload_n hx hb dL_law_279 rfl (lv_at hl 3 rfl) ?_
  refine lv_iconst (v := nI 2) hx hb dL_law_280 (by decide) ?_
  refine kx_iadd hx hb dL_law_281 ?_
  refine va_sld hx hb hX hbl hbA hS (vp_in_nI (show i + 2 < L by omega) (by omega)) dL_law_282 ?_
  have hP : va_P D vwCl ([] ++ (pm_cl y Ly S Bs pi kn Gs sv U ++ (pm_mo y qm S gp gs kn U.2.1 sv U.1 ++ []))) _ := hP
  have hD : va_D _ ([] ++ (pm_cl y Ly S Bs pi kn Gs sv U ++ (pm_mo y qm S gp gs kn U.2.1 sv U.1 ++ []))) := hD
  have hPc := pm_cutP hP
  have hDc := pm_cutD hD
  refine va_calli (va_runV (As := [.int (xs (nI (i + 1)).toNatClampNeg), .int (xs (nI (i + 2)).toNatClampNeg)]) (rest := []) ⟨hx, hb, hml, hown, hts⟩ (k_X3_print l D y Ly S Bs pi kn Gs sv U Hs Sl (xs (nI (i + 1)).toNatClampNeg) (xs (nI (i + 2)).toNatClampNeg) hC hI) (cwV 2 hts gL_law_X3_print rfl rfl rfl hd_X3_print ⟨Nat.le_of_ble_eq_true rfl, Nat.le_of_ble_eq_true rfl⟩) ⟨pm_wr_blind, va_recv hK hPc (ci := 3) (q0 := 0) rfl rfl, pm_wr_pre hPc hK hDc⟩ rfl rfl hl.1 rfl (lv_room (Nat.le_of_ble_eq_true rfl)) dL_law_283 ⟨Nat.le_of_ble_eq_true rfl, Nat.le_of_ble_eq_true rfl⟩) hS (fun q _ h9 => pm_ad_all hDc q h9) (pm_ad_all hDc) (fun r7 u9 t9 H1 locs ht9 _ h7 hB9 _ hk9 hS => ?_)
  obtain ⟨hP, hD⟩ := pm_mid (w' := pm_cl y Ly ((pm_aPrint S (xs (nI (i + 1)).toNatClampNeg) (xs (nI (i + 2)).toNatClampNeg)).2) (pm_ub Bs (pi kn) S) (pm_rp pi kn (pm_aPrint S (xs (nI (i + 1)).toNatClampNeg) (xs (nI (i + 2)).toNatClampNeg)).1) (pm_rk kn (pm_aPrint S (xs (nI (i + 1)).toNatClampNeg) (xs (nI (i + 2)).toNatClampNeg)).1) Gs sv U) hP hD hk9 (by rw [← ht9]; exact hB9) (pm_cl_fst ..)
  clear hk9 hB9 ht9 hPc hDc
  generalize H1 = H at hP hS ⊢
  refine lv_aload_n hx hb dL_law_286 rfl (lv_at hl 2 rfl) ?_
  refine lv_aload_n hx hb dL_law_287 rfl (lv_at hl 0 rfl) ?_
  refine lv_iload_n hx hb dL_law_288 rfl (lv_at hl 3 rfl) ?_
  refine lv_iconst (v := nI 1) hx hb dL_law_289 (by decide) ?_
  refine kx_iadd hx hb dL_law_290 ?_
  refine va_sld hx hb hX hbl hbA hS (vp_in_nI (show i + 1 < L by omega) (by omega)) dL_law_291 ?_
  refine lv_aload_n hx hb dL_law_292 rfl (lv_at hl 0 rfl) ?_
  refine lv_iload_n hx hb dL_law_293 rfl (lv_at hl 3 rfl) ?_
  refine lv_iconst (v := nI 2) hx hb dL_law_294 (by decide) ?_
  refine kx_iadd hx hb dL_law_295 ?_
  refine va_sld hx hb hX hbl hbA hS (vp_in_nI (show i + 2 < L by omega) (by omega)) dL_law_296 ?_
  have hP : va_P D vwCl (pm_cl y Ly ((pm_aPrint S (xs (nI (i + 1)).toNatClampNeg) (xs (nI (i + 2)).toNatClampNeg)).2) (pm_ub Bs (pi kn) S) (pm_rp pi kn (pm_aPrint S (xs (nI (i + 1)).toNatClampNeg) (xs (nI (i + 2)).toNatClampNeg)).1) (pm_rk kn (pm_aPrint S (xs (nI (i + 1)).toNatClampNeg) (xs (nI (i + 2)).toNatClampNeg)).1) Gs sv U ++ (pm_mo y qm S gp gs kn U.2.1 sv U.1 ++ [])) _ := hP
  have hD : va_D _ (pm_cl y Ly ((pm_aPrint S (xs (nI (i + 1)).toNatClampNeg) (xs (nI (i + 2)).toNatClampNeg)).2) (pm_ub Bs (pi kn) S) (pm_rp pi kn (pm_aPrint S (xs (nI (i + 1)).toNatClampNeg) (xs (nI (i + 2)).toNatClampNeg)).1) (pm_rk kn (pm_aPrint S (xs (nI (i + 1)).toNatClampNeg) (xs (nI (i + 2)).toNatClampNeg)).1) Gs sv U ++ (pm_mo y qm S gp gs kn U.2.1 sv U.1 ++ [])) := hD
  have hPc := pm_cutP hP
  have hDc := pm_cutD hD
  refine va_calli (va_runV (As := [.int (xs (nI (i + 1)).toNatClampNeg), .int (xs (nI (i + 2)).toNatClampNeg)]) (rest := [.int r7]) ⟨hx, hb, hml, hown, hts⟩ (k_X4_print l D y qm S gp gs kn U.2.1 sv U.1 Hs (xs (nI (i + 1)).toNatClampNeg) (xs (nI (i + 2)).toNatClampNeg) hI hC.2.2.1 hM) (cwV 2 hts gL_law_X4_print rfl rfl rfl hd_X4_print ⟨Nat.le_of_ble_eq_true rfl, Nat.le_of_ble_eq_true rfl⟩) ⟨pm_wr_blind, va_recv hK hPc (ci := 4) (q0 := 0) rfl rfl, pm_wr_pre hPc hK hDc⟩ rfl rfl hl.1 rfl (lv_room (Nat.le_of_ble_eq_true rfl)) dL_law_297 ⟨Nat.le_of_ble_eq_true rfl, Nat.le_of_ble_eq_true rfl⟩) hS (fun q _ h9 => pm_ad_all hDc q h9) (pm_ad_all hDc) (fun r8 u8 t9 H1 locs ht9 _ h8 hB9 _ hk9 hS => ?_)
  obtain ⟨hP, hD⟩ := pm_mid (w' := pm_mo y qm ((pm_aPrint S (xs (nI (i + 1)).toNatClampNeg) (xs (nI (i + 2)).toNatClampNeg)).2) u8 gs (pm_k2 (pm_aPrint S (xs (nI (i + 1)).toNatClampNeg) (xs (nI (i + 2)).toNatClampNeg)).1 kn) U.2.1 sv U.1) hP hD hk9 (by rw [← ht9]; exact hB9) rfl
  clear hk9 hB9 ht9 hPc hDc
  generalize H1 = H at hP hS ⊢
  refine lv_icmp_eq (tgt := 729) hx hb dL_law_300 (by decide) (fun _ => ?_) (fun c1 => absurd (h7.trans h8.1.symm) c1)
  exact GO ((pm_aPrint S (xs (nI (i + 1)).toNatClampNeg) (xs (nI (i + 2)).toNatClampNeg)).2) (pm_ub Bs (pi kn) S) (pm_rp pi kn (pm_aPrint S (xs (nI (i + 1)).toNatClampNeg) (xs (nI (i + 2)).toNatClampNeg)).1) (pm_rk kn (pm_aPrint S (xs (nI (i + 1)).toNatClampNeg) (xs (nI (i + 2)).toNatClampNeg)).1) Gs sv U u8 gs (pm_h2 (pm_aPrint S (xs (nI (i + 1)).toNatClampNeg) (xs (nI (i + 2)).toNatClampNeg)).1 Hs kn S) Sl _ _ ls (pm_LI_chg (pm_aPrint S (xs (nI (i + 1)).toNatClampNeg) (xs (nI (i + 2)).toNatClampNeg)).1 hLI (pm_aPrint_inv hI _ _) h8.2) hP hD hS hl

set_option maxHeartbeats 4000000 in
set_option maxRecDepth 100000 in
theorem law_c5 {p : Program} {l : Launch} {e : Env} {s : State} {m : MethodId} {below : List Frame} {meth : Method} {c : Code} {D : va_G} {y : Nat → ClassId} {b : Nat} {L tl tm : Nat} {xs : Nat → Int32} (hL : L ≤ 2048) (C0 : lw_At p s m meth c b L xs) (hK : va_K D vwCl (pm_ty y) s) (hN : pm_NW s) (hT : pm_ST (fun q : Nat => s.heap.size ≤ q) tl tm s) {Ly : Nat → Nat → Nat} {qm : Nat → Nat} {i : Nat} (hi : i + 4 ≤ L) (GO : pm_Go p l e s m below meth c D y b Ly qm i 729) : pm_Go p l e s m below meth c D y b Ly qm i 305 := by
  intro S Bs pi kn Gs sv U gp gs Hs Sl H locs ls hLI hP hD hS hl
  obtain ⟨hx, hb, hr, hml, hown, hts0, hX, hbl, hlocks, hgv⟩ := C0
  have hown : s.vm.findClass RL = some m.cls := hown
  have hts : ∀ w ∈ wsL_law, w.before #[Value.ref b] s = true := fun w hw => hts0 w (wsL_law_in w hw)
  have hbA : ¬ (fun q : Nat => s.heap.size ≤ q) b := Nat.not_le.mpr hbl
  obtain ⟨hI, hC, hM, hMS, hIH, hIS, hsv, hPI⟩ := id hLI
  refine lv_aload_n hx hb dL_law_305 rfl (lv_at hl 1 rfl) ?_
  refine lv_aload_n hx hb dL_law_306 rfl (lv_at hl 0 rfl) ?_
  refine lv_iload_n hx hb dL_law_307 rfl (lv_at hl 3 rfl) ?_
  refine lv_iconst (v := nI 1) hx hb dL_law_308 (by decide) ?_
  refine kx_iadd hx hb dL_law_309 ?_
  refine va_sld hx hb hX hbl hbA hS (vp_in_nI (show i + 1 < L by omega) (by omega)) dL_law_310 ?_
  have hP : va_P D vwCl ([] ++ (pm_cl y Ly S Bs pi kn Gs sv U ++ (pm_mo y qm S gp gs kn U.2.1 sv U.1 ++ []))) _ := hP
  have hD : va_D _ ([] ++ (pm_cl y Ly S Bs pi kn Gs sv U ++ (pm_mo y qm S gp gs kn U.2.1 sv U.1 ++ []))) := hD
  have hPc := pm_cutP hP
  have hDc := pm_cutD hD
  refine va_calli (va_runV (As := [.int (xs (nI (i + 1)).toNatClampNeg)]) (rest := []) ⟨hx, hb, hml, hown, hts⟩ (k_X3_buy l D y Ly S Bs pi kn Gs sv U Hs Sl (xs (nI (i + 1)).toNatClampNeg) hC hI) (cwV 1 hts gL_law_X3_buy rfl rfl rfl hd_X3_buy ⟨Nat.le_of_ble_eq_true rfl, Nat.le_of_ble_eq_true rfl⟩) ⟨pm_wr_blind, va_recv hK hPc (ci := 3) (q0 := 0) rfl rfl, pm_wr_pre hPc hK hDc⟩ rfl rfl hl.1 rfl (lv_room (Nat.le_of_ble_eq_true rfl)) dL_law_311 ⟨Nat.le_of_ble_eq_true rfl, Nat.le_of_ble_eq_true rfl⟩) hS (fun q _ h9 => pm_ad_all hDc q h9) (pm_ad_all hDc) (fun r7 u9 t9 H1 locs ht9 _ h7 hB9 _ hk9 hS => ?_)
  obtain ⟨hP, hD⟩ := pm_mid (w' := pm_cl y Ly ((pm_aBuy S (xs (nI (i + 1)).toNatClampNeg)).2) (pm_ub Bs (pi kn) S) (pm_rp pi kn (pm_aBuy S (xs (nI (i + 1)).toNatClampNeg)).1) (pm_rk kn (pm_aBuy S (xs (nI (i + 1)).toNatClampNeg)).1) Gs sv U) hP hD hk9 (by rw [← ht9]; exact hB9) (pm_cl_fst ..)
  clear hk9 hB9 ht9 hPc hDc
  generalize H1 = H at hP hS ⊢
  refine lv_aload_n hx hb dL_law_314 rfl (lv_at hl 2 rfl) ?_
  refine lv_aload_n hx hb dL_law_315 rfl (lv_at hl 0 rfl) ?_
  refine lv_iload_n hx hb dL_law_316 rfl (lv_at hl 3 rfl) ?_
  refine lv_iconst (v := nI 1) hx hb dL_law_317 (by decide) ?_
  refine kx_iadd hx hb dL_law_318 ?_
  refine va_sld hx hb hX hbl hbA hS (vp_in_nI (show i + 1 < L by omega) (by omega)) dL_law_319 ?_
  have hP : va_P D vwCl (pm_cl y Ly ((pm_aBuy S (xs (nI (i + 1)).toNatClampNeg)).2) (pm_ub Bs (pi kn) S) (pm_rp pi kn (pm_aBuy S (xs (nI (i + 1)).toNatClampNeg)).1) (pm_rk kn (pm_aBuy S (xs (nI (i + 1)).toNatClampNeg)).1) Gs sv U ++ (pm_mo y qm S gp gs kn U.2.1 sv U.1 ++ [])) _ := hP
  have hD : va_D _ (pm_cl y Ly ((pm_aBuy S (xs (nI (i + 1)).toNatClampNeg)).2) (pm_ub Bs (pi kn) S) (pm_rp pi kn (pm_aBuy S (xs (nI (i + 1)).toNatClampNeg)).1) (pm_rk kn (pm_aBuy S (xs (nI (i + 1)).toNatClampNeg)).1) Gs sv U ++ (pm_mo y qm S gp gs kn U.2.1 sv U.1 ++ [])) := hD
  have hPc := pm_cutP hP
  have hDc := pm_cutD hD
  refine va_calli (va_runV (As := [.int (xs (nI (i + 1)).toNatClampNeg)]) (rest := [.int r7]) ⟨hx, hb, hml, hown, hts⟩ (k_X4_buy l D y qm S gp gs kn U.2.1 sv U.1 Hs (xs (nI (i + 1)).toNatClampNeg) hI hC.2.2.1 hM) (cwV 1 hts gL_law_X4_buy rfl rfl rfl hd_X4_buy ⟨Nat.le_of_ble_eq_true rfl, Nat.le_of_ble_eq_true rfl⟩) ⟨pm_wr_blind, va_recv hK hPc (ci := 4) (q0 := 0) rfl rfl, pm_wr_pre hPc hK hDc⟩ rfl rfl hl.1 rfl (lv_room (Nat.le_of_ble_eq_true rfl)) dL_law_320 ⟨Nat.le_of_ble_eq_true rfl, Nat.le_of_ble_eq_true rfl⟩) hS (fun q _ h9 => pm_ad_all hDc q h9) (pm_ad_all hDc) (fun r8 u8 t9 H1 locs ht9 _ h8 hB9 _ hk9 hS => ?_)
  obtain ⟨hP, hD⟩ := pm_mid (w' := pm_mo y qm ((pm_aBuy S (xs (nI (i + 1)).toNatClampNeg)).2) u8 gs (pm_k2 (pm_aBuy S (xs (nI (i + 1)).toNatClampNeg)).1 kn) U.2.1 sv U.1) hP hD hk9 (by rw [← ht9]; exact hB9) rfl
  clear hk9 hB9 ht9 hPc hDc
  generalize H1 = H at hP hS ⊢
  refine lv_icmp_eq (tgt := 729) hx hb dL_law_323 (by decide) (fun _ => ?_) (fun c1 => absurd (h7.trans h8.1.symm) c1)
  exact GO ((pm_aBuy S (xs (nI (i + 1)).toNatClampNeg)).2) (pm_ub Bs (pi kn) S) (pm_rp pi kn (pm_aBuy S (xs (nI (i + 1)).toNatClampNeg)).1) (pm_rk kn (pm_aBuy S (xs (nI (i + 1)).toNatClampNeg)).1) Gs sv U u8 gs (pm_h2 (pm_aBuy S (xs (nI (i + 1)).toNatClampNeg)).1 Hs kn S) Sl _ _ ls (pm_LI_chg (pm_aBuy S (xs (nI (i + 1)).toNatClampNeg)).1 hLI (pm_aBuy_inv hI _) h8.2) hP hD hS hl

set_option maxHeartbeats 4000000 in
set_option maxRecDepth 100000 in
theorem law_c6 {p : Program} {l : Launch} {e : Env} {s : State} {m : MethodId} {below : List Frame} {meth : Method} {c : Code} {D : va_G} {y : Nat → ClassId} {b : Nat} {L tl tm : Nat} {xs : Nat → Int32} (hL : L ≤ 2048) (C0 : lw_At p s m meth c b L xs) (hK : va_K D vwCl (pm_ty y) s) (hN : pm_NW s) (hT : pm_ST (fun q : Nat => s.heap.size ≤ q) tl tm s) {Ly : Nat → Nat → Nat} {qm : Nat → Nat} {i : Nat} (hi : i + 4 ≤ L) (GO : pm_Go p l e s m below meth c D y b Ly qm i 729) : pm_Go p l e s m below meth c D y b Ly qm i 328 := by
  intro S Bs pi kn Gs sv U gp gs Hs Sl H locs ls hLI hP hD hS hl
  obtain ⟨hx, hb, hr, hml, hown, hts0, hX, hbl, hlocks, hgv⟩ := C0
  have hown : s.vm.findClass RL = some m.cls := hown
  have hts : ∀ w ∈ wsL_law, w.before #[Value.ref b] s = true := fun w hw => hts0 w (wsL_law_in w hw)
  have hbA : ¬ (fun q : Nat => s.heap.size ≤ q) b := Nat.not_le.mpr hbl
  obtain ⟨hI, hC, hM, hMS, hIH, hIS, hsv, hPI⟩ := id hLI
  refine lv_aload_n hx hb dL_law_328 rfl (lv_at hl 1 rfl) ?_
  refine lv_aload_n hx hb dL_law_329 rfl (lv_at hl 0 rfl) ?_
  refine lv_iload_n hx hb dL_law_330 rfl (lv_at hl 3 rfl) ?_
  refine lv_iconst (v := nI 1) hx hb dL_law_331 (by decide) ?_
  refine kx_iadd hx hb dL_law_332 ?_
  refine va_sld hx hb hX hbl hbA hS (vp_in_nI (show i + 1 < L by omega) (by omega)) dL_law_333 ?_
  have hP : va_P D vwCl ([] ++ (pm_cl y Ly S Bs pi kn Gs sv U ++ (pm_mo y qm S gp gs kn U.2.1 sv U.1 ++ []))) _ := hP
  have hD : va_D _ ([] ++ (pm_cl y Ly S Bs pi kn Gs sv U ++ (pm_mo y qm S gp gs kn U.2.1 sv U.1 ++ []))) := hD
  have hPc := pm_cutP hP
  have hDc := pm_cutD hD
  refine va_calli (va_runV (As := [.int (xs (nI (i + 1)).toNatClampNeg)]) (rest := []) ⟨hx, hb, hml, hown, hts⟩ (k_X3_reopen l D y Ly S Bs pi kn Gs sv U Hs Sl (xs (nI (i + 1)).toNatClampNeg) hC hI) (cwV 1 hts gL_law_X3_reopen rfl rfl rfl hd_X3_reopen ⟨Nat.le_of_ble_eq_true rfl, Nat.le_of_ble_eq_true rfl⟩) ⟨pm_wr_blind, va_recv hK hPc (ci := 3) (q0 := 0) rfl rfl, pm_wr_pre hPc hK hDc⟩ rfl rfl hl.1 rfl (lv_room (Nat.le_of_ble_eq_true rfl)) dL_law_334 ⟨Nat.le_of_ble_eq_true rfl, Nat.le_of_ble_eq_true rfl⟩) hS (fun q _ h9 => pm_ad_all hDc q h9) (pm_ad_all hDc) (fun r7 u9 t9 H1 locs ht9 _ h7 hB9 _ hk9 hS => ?_)
  obtain ⟨hP, hD⟩ := pm_mid (w' := pm_cl y Ly ((pm_aReopen S (xs (nI (i + 1)).toNatClampNeg)).2) (pm_ub Bs (pi kn) S) (pm_rp pi kn (pm_aReopen S (xs (nI (i + 1)).toNatClampNeg)).1) (pm_rk kn (pm_aReopen S (xs (nI (i + 1)).toNatClampNeg)).1) Gs sv U) hP hD hk9 (by rw [← ht9]; exact hB9) (pm_cl_fst ..)
  clear hk9 hB9 ht9 hPc hDc
  generalize H1 = H at hP hS ⊢
  refine lv_aload_n hx hb dL_law_337 rfl (lv_at hl 2 rfl) ?_
  refine lv_aload_n hx hb dL_law_338 rfl (lv_at hl 0 rfl) ?_
  refine lv_iload_n hx hb dL_law_339 rfl (lv_at hl 3 rfl) ?_
  refine lv_iconst (v := nI 1) hx hb dL_law_340 (by decide) ?_
  refine kx_iadd hx hb dL_law_341 ?_
  refine va_sld hx hb hX hbl hbA hS (vp_in_nI (show i + 1 < L by omega) (by omega)) dL_law_342 ?_
  have hP : va_P D vwCl (pm_cl y Ly ((pm_aReopen S (xs (nI (i + 1)).toNatClampNeg)).2) (pm_ub Bs (pi kn) S) (pm_rp pi kn (pm_aReopen S (xs (nI (i + 1)).toNatClampNeg)).1) (pm_rk kn (pm_aReopen S (xs (nI (i + 1)).toNatClampNeg)).1) Gs sv U ++ (pm_mo y qm S gp gs kn U.2.1 sv U.1 ++ [])) _ := hP
  have hD : va_D _ (pm_cl y Ly ((pm_aReopen S (xs (nI (i + 1)).toNatClampNeg)).2) (pm_ub Bs (pi kn) S) (pm_rp pi kn (pm_aReopen S (xs (nI (i + 1)).toNatClampNeg)).1) (pm_rk kn (pm_aReopen S (xs (nI (i + 1)).toNatClampNeg)).1) Gs sv U ++ (pm_mo y qm S gp gs kn U.2.1 sv U.1 ++ [])) := hD
  have hPc := pm_cutP hP
  have hDc := pm_cutD hD
  refine va_calli (va_runV (As := [.int (xs (nI (i + 1)).toNatClampNeg)]) (rest := [.int r7]) ⟨hx, hb, hml, hown, hts⟩ (k_X4_reopen l D y qm S gp gs kn U.2.1 sv U.1 Hs (xs (nI (i + 1)).toNatClampNeg) hI hC.2.2.1 hM) (cwV 1 hts gL_law_X4_reopen rfl rfl rfl hd_X4_reopen ⟨Nat.le_of_ble_eq_true rfl, Nat.le_of_ble_eq_true rfl⟩) ⟨pm_wr_blind, va_recv hK hPc (ci := 4) (q0 := 0) rfl rfl, pm_wr_pre hPc hK hDc⟩ rfl rfl hl.1 rfl (lv_room (Nat.le_of_ble_eq_true rfl)) dL_law_343 ⟨Nat.le_of_ble_eq_true rfl, Nat.le_of_ble_eq_true rfl⟩) hS (fun q _ h9 => pm_ad_all hDc q h9) (pm_ad_all hDc) (fun r8 u8 t9 H1 locs ht9 _ h8 hB9 _ hk9 hS => ?_)
  obtain ⟨hP, hD⟩ := pm_mid (w' := pm_mo y qm ((pm_aReopen S (xs (nI (i + 1)).toNatClampNeg)).2) u8 gs (pm_k2 (pm_aReopen S (xs (nI (i + 1)).toNatClampNeg)).1 kn) U.2.1 sv U.1) hP hD hk9 (by rw [← ht9]; exact hB9) rfl
  clear hk9 hB9 ht9 hPc hDc
  generalize H1 = H at hP hS ⊢
  refine lv_icmp_eq (tgt := 729) hx hb dL_law_346 (by decide) (fun _ => ?_) (fun c1 => absurd (h7.trans h8.1.symm) c1)
  exact GO ((pm_aReopen S (xs (nI (i + 1)).toNatClampNeg)).2) (pm_ub Bs (pi kn) S) (pm_rp pi kn (pm_aReopen S (xs (nI (i + 1)).toNatClampNeg)).1) (pm_rk kn (pm_aReopen S (xs (nI (i + 1)).toNatClampNeg)).1) Gs sv U u8 gs (pm_h2 (pm_aReopen S (xs (nI (i + 1)).toNatClampNeg)).1 Hs kn S) Sl _ _ ls (pm_LI_chg (pm_aReopen S (xs (nI (i + 1)).toNatClampNeg)).1 hLI (pm_aReopen_inv hI _) h8.2) hP hD hS hl

set_option maxHeartbeats 4000000 in
set_option maxRecDepth 100000 in
theorem law_c7 {p : Program} {l : Launch} {e : Env} {s : State} {m : MethodId} {below : List Frame} {meth : Method} {c : Code} {D : va_G} {y : Nat → ClassId} {b : Nat} {L tl tm : Nat} {xs : Nat → Int32} (hL : L ≤ 2048) (C0 : lw_At p s m meth c b L xs) (hK : va_K D vwCl (pm_ty y) s) (hN : pm_NW s) (hT : pm_ST (fun q : Nat => s.heap.size ≤ q) tl tm s) {Ly : Nat → Nat → Nat} {qm : Nat → Nat} {i : Nat} (hi : i + 4 ≤ L) (GO : pm_Go p l e s m below meth c D y b Ly qm i 729) : pm_Go p l e s m below meth c D y b Ly qm i 351 := by
  intro S Bs pi kn Gs sv U gp gs Hs Sl H locs ls hLI hP hD hS hl
  obtain ⟨hx, hb, hr, hml, hown, hts0, hX, hbl, hlocks, hgv⟩ := C0
  have hown : s.vm.findClass RL = some m.cls := hown
  have hts : ∀ w ∈ wsL_law, w.before #[Value.ref b] s = true := fun w hw => hts0 w (wsL_law_in w hw)
  have hbA : ¬ (fun q : Nat => s.heap.size ≤ q) b := Nat.not_le.mpr hbl
  obtain ⟨hI, hC, hM, hMS, hIH, hIS, hsv, hPI⟩ := id hLI
  refine lv_aload_n hx hb dL_law_351 rfl (lv_at hl 1 rfl) ?_
  refine lv_aload_n hx hb dL_law_352 rfl (lv_at hl 0 rfl) ?_
  refine lv_iload_n hx hb dL_law_353 rfl (lv_at hl 3 rfl) ?_
  refine lv_iconst (v := nI 1) hx hb dL_law_354 (by decide) ?_
  refine kx_iadd hx hb dL_law_355 ?_
  refine va_sld hx hb hX hbl hbA hS (vp_in_nI (show i + 1 < L by omega) (by omega)) dL_law_356 ?_
  refine lv_aload_n hx hb dL_law_357 rfl (lv_at hl 0 rfl) ?_
  refine lv_iload_n hx hb dL_law_358 rfl (lv_at hl 3 rfl) ?_
  refine lv_iconst (v := nI 2) hx hb dL_law_359 (by decide) ?_
  refine kx_iadd hx hb dL_law_360 ?_
  refine va_sld hx hb hX hbl hbA hS (vp_in_nI (show i + 2 < L by omega) (by omega)) dL_law_361 ?_
  have hP : va_P D vwCl ([] ++ (pm_cl y Ly S Bs pi kn Gs sv U ++ (pm_mo y qm S gp gs kn U.2.1 sv U.1 ++ []))) _ := hP
  have hD : va_D _ ([] ++ (pm_cl y Ly S Bs pi kn Gs sv U ++ (pm_mo y qm S gp gs kn U.2.1 sv U.1 ++ []))) := hD
  have hPc := pm_cutP hP
  have hDc := pm_cutD hD
  refine vp_callSi (W.runV (As := [.int (xs (nI (i + 1)).toNatClampNeg), .int (xs (nI (i + 2)).toNatClampNeg)]) (rest := []) ⟨hx, hb, hml, hown, hts⟩ (k_X3_of l D y Ly S Bs pi kn Gs sv U Hs Sl (xs (nI (i + 1)).toNatClampNeg) (xs (nI (i + 2)).toNatClampNeg) hI) (cwV 2 hts gL_law_X3_of rfl rfl rfl hd_X3_of ⟨Nat.le_of_ble_eq_true rfl, Nat.le_of_ble_eq_true rfl⟩) ⟨pm_ro_blind, va_recv hK hPc (ci := 3) (q0 := 0) rfl rfl, pm_ro_pre hPc hK⟩ rfl rfl hl.1 rfl (lv_room (Nat.le_of_ble_eq_true rfl)) dL_law_362 ⟨Nat.le_of_ble_eq_true rfl, Nat.le_of_ble_eq_true rfl⟩) (fun r7 h7 => ?_)
  refine lv_aload_n hx hb dL_law_365 rfl (lv_at hl 2 rfl) ?_
  refine lv_aload_n hx hb dL_law_366 rfl (lv_at hl 0 rfl) ?_
  refine lv_iload_n hx hb dL_law_367 rfl (lv_at hl 3 rfl) ?_
  refine lv_iconst (v := nI 1) hx hb dL_law_368 (by decide) ?_
  refine kx_iadd hx hb dL_law_369 ?_
  refine va_sld hx hb hX hbl hbA hS (vp_in_nI (show i + 1 < L by omega) (by omega)) dL_law_370 ?_
  refine lv_aload_n hx hb dL_law_371 rfl (lv_at hl 0 rfl) ?_
  refine lv_iload_n hx hb dL_law_372 rfl (lv_at hl 3 rfl) ?_
  refine lv_iconst (v := nI 2) hx hb dL_law_373 (by decide) ?_
  refine kx_iadd hx hb dL_law_374 ?_
  refine va_sld hx hb hX hbl hbA hS (vp_in_nI (show i + 2 < L by omega) (by omega)) dL_law_375 ?_
  have hP : va_P D vwCl (pm_cl y Ly S Bs pi kn Gs sv U ++ (pm_mo y qm S gp gs kn U.2.1 sv U.1 ++ [])) _ := hP
  have hD : va_D _ (pm_cl y Ly S Bs pi kn Gs sv U ++ (pm_mo y qm S gp gs kn U.2.1 sv U.1 ++ [])) := hD
  have hPc := pm_cutP hP
  have hDc := pm_cutD hD
  refine vp_callSi (W.runV (As := [.int (xs (nI (i + 1)).toNatClampNeg), .int (xs (nI (i + 2)).toNatClampNeg)]) (rest := [.int r7]) ⟨hx, hb, hml, hown, hts⟩ (k_X4_of l D y qm S gp gs kn U.2.1 sv U.1 (xs (nI (i + 1)).toNatClampNeg) (xs (nI (i + 2)).toNatClampNeg) hI) (cwV 2 hts gL_law_X4_of rfl rfl rfl hd_X4_of ⟨Nat.le_of_ble_eq_true rfl, Nat.le_of_ble_eq_true rfl⟩) ⟨pm_ro_blind, va_recv hK hPc (ci := 4) (q0 := 0) rfl rfl, pm_ro_pre hPc hK⟩ rfl rfl hl.1 rfl (lv_room (Nat.le_of_ble_eq_true rfl)) dL_law_376 ⟨Nat.le_of_ble_eq_true rfl, Nat.le_of_ble_eq_true rfl⟩) (fun r8 h8 => ?_)
  refine lv_icmp_eq (tgt := 729) hx hb dL_law_379 (by decide) (fun _ => ?_) (fun c1 => absurd (h7.trans h8.symm) c1)
  exact GO S Bs pi kn Gs sv U gp gs Hs Sl _ _ ls hLI hP hD hS hl

set_option maxHeartbeats 4000000 in
set_option maxRecDepth 100000 in
theorem law_c8 {p : Program} {l : Launch} {e : Env} {s : State} {m : MethodId} {below : List Frame} {meth : Method} {c : Code} {D : va_G} {y : Nat → ClassId} {b : Nat} {L tl tm : Nat} {xs : Nat → Int32} (hL : L ≤ 2048) (C0 : lw_At p s m meth c b L xs) (hK : va_K D vwCl (pm_ty y) s) (hN : pm_NW s) (hT : pm_ST (fun q : Nat => s.heap.size ≤ q) tl tm s) {Ly : Nat → Nat → Nat} {qm : Nat → Nat} {i : Nat} (hi : i + 4 ≤ L) (GO : pm_Go p l e s m below meth c D y b Ly qm i 729) : pm_Go p l e s m below meth c D y b Ly qm i 384 := by
  intro S Bs pi kn Gs sv U gp gs Hs Sl H locs ls hLI hP hD hS hl
  obtain ⟨hx, hb, hr, hml, hown, hts0, hX, hbl, hlocks, hgv⟩ := C0
  have hown : s.vm.findClass RL = some m.cls := hown
  have hts : ∀ w ∈ wsL_law, w.before #[Value.ref b] s = true := fun w hw => hts0 w (wsL_law_in w hw)
  have hbA : ¬ (fun q : Nat => s.heap.size ≤ q) b := Nat.not_le.mpr hbl
  obtain ⟨hI, hC, hM, hMS, hIH, hIS, hsv, hPI⟩ := id hLI
  refine lv_aload_n hx hb dL_law_384 rfl (lv_at hl 1 rfl) ?_
  refine lv_aload_n hx hb dL_law_385 rfl (lv_at hl 0 rfl) ?_
  refine lv_iload_n hx hb dL_law_386 rfl (lv_at hl 3 rfl) ?_
  refine lv_iconst (v := nI 1) hx hb dL_law_387 (by decide) ?_
  refine kx_iadd hx hb dL_law_388 ?_
  refine va_sld hx hb hX hbl hbA hS (vp_in_nI (show i + 1 < L by omega) (by omega)) dL_law_389 ?_
  refine lv_aload_n hx hb dL_law_390 rfl (lv_at hl 0 rfl) ?_
  refine lv_iload_n hx hb dL_law_391 rfl (lv_at hl 3 rfl) ?_
  refine lv_iconst (v := nI 2) hx hb dL_law_392 (by decide) ?_
  refine kx_iadd hx hb dL_law_393 ?_
  refine va_sld hx hb hX hbl hbA hS (vp_in_nI (show i + 2 < L by omega) (by omega)) dL_law_394 ?_
  have hP : va_P D vwCl ([] ++ (pm_cl y Ly S Bs pi kn Gs sv U ++ (pm_mo y qm S gp gs kn U.2.1 sv U.1 ++ []))) _ := hP
  have hD : va_D _ ([] ++ (pm_cl y Ly S Bs pi kn Gs sv U ++ (pm_mo y qm S gp gs kn U.2.1 sv U.1 ++ []))) := hD
  have hPc := pm_cutP hP
  have hDc := pm_cutD hD
  refine vp_callSi (W.runV (As := [.int (xs (nI (i + 1)).toNatClampNeg), .int (xs (nI (i + 2)).toNatClampNeg)]) (rest := []) ⟨hx, hb, hml, hown, hts⟩ (k_X3_editor l D y Ly S Bs pi kn Gs sv U Hs Sl (xs (nI (i + 1)).toNatClampNeg) (xs (nI (i + 2)).toNatClampNeg) hI) (cwV 2 hts gL_law_X3_editor rfl rfl rfl hd_X3_editor ⟨Nat.le_of_ble_eq_true rfl, Nat.le_of_ble_eq_true rfl⟩) ⟨pm_ro_blind, va_recv hK hPc (ci := 3) (q0 := 0) rfl rfl, pm_ro_pre hPc hK⟩ rfl rfl hl.1 rfl (lv_room (Nat.le_of_ble_eq_true rfl)) dL_law_395 ⟨Nat.le_of_ble_eq_true rfl, Nat.le_of_ble_eq_true rfl⟩) (fun r7 h7 => ?_)
  refine lv_aload_n hx hb dL_law_398 rfl (lv_at hl 2 rfl) ?_
  refine lv_aload_n hx hb dL_law_399 rfl (lv_at hl 0 rfl) ?_
  refine lv_iload_n hx hb dL_law_400 rfl (lv_at hl 3 rfl) ?_
  refine lv_iconst (v := nI 1) hx hb dL_law_401 (by decide) ?_
  refine kx_iadd hx hb dL_law_402 ?_
  refine va_sld hx hb hX hbl hbA hS (vp_in_nI (show i + 1 < L by omega) (by omega)) dL_law_403 ?_
  refine lv_aload_n hx hb dL_law_404 rfl (lv_at hl 0 rfl) ?_
  refine lv_iload_n hx hb dL_law_405 rfl (lv_at hl 3 rfl) ?_
  refine lv_iconst (v := nI 2) hx hb dL_law_406 (by decide) ?_
  refine kx_iadd hx hb dL_law_407 ?_
  refine va_sld hx hb hX hbl hbA hS (vp_in_nI (show i + 2 < L by omega) (by omega)) dL_law_408 ?_
  have hP : va_P D vwCl (pm_cl y Ly S Bs pi kn Gs sv U ++ (pm_mo y qm S gp gs kn U.2.1 sv U.1 ++ [])) _ := hP
  have hD : va_D _ (pm_cl y Ly S Bs pi kn Gs sv U ++ (pm_mo y qm S gp gs kn U.2.1 sv U.1 ++ [])) := hD
  have hPc := pm_cutP hP
  have hDc := pm_cutD hD
  refine vp_callSi (W.runV (As := [.int (xs (nI (i + 1)).toNatClampNeg), .int (xs (nI (i + 2)).toNatClampNeg)]) (rest := [.int r7]) ⟨hx, hb, hml, hown, hts⟩ (k_X4_editor l D y qm S gp gs kn U.2.1 sv U.1 (xs (nI (i + 1)).toNatClampNeg) (xs (nI (i + 2)).toNatClampNeg) hI) (cwV 2 hts gL_law_X4_editor rfl rfl rfl hd_X4_editor ⟨Nat.le_of_ble_eq_true rfl, Nat.le_of_ble_eq_true rfl⟩) ⟨pm_ro_blind, va_recv hK hPc (ci := 4) (q0 := 0) rfl rfl, pm_ro_pre hPc hK⟩ rfl rfl hl.1 rfl (lv_room (Nat.le_of_ble_eq_true rfl)) dL_law_409 ⟨Nat.le_of_ble_eq_true rfl, Nat.le_of_ble_eq_true rfl⟩) (fun r8 h8 => ?_)
  refine lv_icmp_eq (tgt := 729) hx hb dL_law_412 (by decide) (fun _ => ?_) (fun c1 => absurd (h7.trans h8.symm) c1)
  exact GO S Bs pi kn Gs sv U gp gs Hs Sl _ _ ls hLI hP hD hS hl
