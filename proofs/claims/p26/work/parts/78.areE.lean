theorem pq_ag_le (S : Nat → Nat → Nat) (x o : Nat) : pq_ag S x o ≤ 3000 := by
  have h1 := pq_sa_le S x o 30
  unfold pq_ag
  split
  · decide
  · exact Nat.le_trans (Nat.div_le_self _ _) (by omega)
theorem pq_ag_1 {S : Nat → Nat → Nat} {x o : Nat} (h : pm_bo S x o 30 = 0) : nI 100 = nI (pq_ag S x o) := by unfold pq_ag; rw [if_pos h]
theorem pq_ag_2 {S : Nat → Nat → Nat} {x o : Nat} (h : ¬ pm_bo S x o 30 = 0) : nI (100 * pm_sa S x o 30 / pm_bo S x o 30) = nI (pq_ag S x o) := by unfold pq_ag; rw [if_neg h]

set_option maxHeartbeats 4000000 in
set_option maxRecDepth 100000 in
theorem k_L_areEditors (l : Launch) (D : va_G) (y : Nat → ClassId) (L : Nat → Nat → Nat) (S : Nat → Nat → Nat) (Bs : Nat → Nat → Nat → Nat) (pi : Nat → Nat) (kn : Nat) (Gs : Nat → Nat → Nat → Nat) (sv : Nat → Nat) (U : pm_PT) (hI : pq_I S) : Met l yL_areEditors wsL_areEditors ({ frames := 5, cells := 0, slots := 0, locals := 112 } : Room) (pm_ron D (pm_ty y) [.ref (L 0 0)] (pm_cl y L S Bs pi kn Gs sv U)) (vp_Si (fun r : Int32 => r = nI 1)) 0 0 (fun _ => False) := by
  refine Met.ofW (cc := cL_areEditors) (maxL := 10) (ret := (some .boolean)) (by decide) rfl ?_
  intro p e s m args below meth c s₁ B hml hpre
  obtain ⟨rfl, ⟨hP, hK⟩, hN⟩ := hpre
  have hx := B.exec
  have hb := B.bytes
  have hr := B.returns
  have hts := atoms_spec (ws := wsL_areEditors) B.pre
  have hown : s.vm.findClass RL = some m.cls := findClass_of_methodNamed B.named
  have hlocks := B.notSynchronized
  have hin3 : ∀ w ∈ u_ws RX3 TX3 5, w ∈ wsL_areEditors := fun w h => List.mem_cons_of_mem _ (List.mem_append_left _ (List.mem_append_left _ (List.mem_append_left _ (List.mem_append_right _ h))))
  have hin2 : ∀ w ∈ u_ws RX2 TX2 15, w ∈ wsL_areEditors := fun w h => List.mem_cons_of_mem _ (List.mem_append_left _ (List.mem_append_left _ (List.mem_append_right _ h)))
  have hin1 : ∀ w ∈ u_ws RX1 TX1 8, w ∈ wsL_areEditors := fun w h => List.mem_cons_of_mem _ (List.mem_append_left _ (List.mem_append_right _ h))
  have hin0 : ∀ w ∈ u_ws RX0 TX0 2, w ∈ wsL_areEditors := fun w h => List.mem_cons_of_mem _ (List.mem_append_right _ h)
  have hP : va_P D vwCl (pm_cl y L S Bs pi kn Gs sv U) s.heap := hP
  have hl := lv_entry ([.ref (L 0 0)]) (n := 10) (Nat.le_of_ble_eq_true rfl)
  rw [lg_entry_eq]
  generalize (lg_sl ([.ref (L 0 0)]) ++ List.replicate (10 - (lg_sl ([.ref (L 0 0)])).length) Slot.unset).toArray = ls at hl ⊢
  have hl : lv_has ls 10 [(0, .ref (L 0 0))] := hl
  refine lv_iconst (v := nI 0) hx hb dL_areEditors_0 (by decide) ?_
  refine lv_istore_n (lv' := [(1, .int (nI 0)), (0, .ref (L 0 0))]) hx hb dL_areEditors_1 rfl hl (by decide) rfl (fun ls hl => ?_)
  have LOOP2 : ∀ (n x : Nat) (ls : Array Slot), x ≤ 3 → 3 - x < n → lv_has ls 10 [(0, .ref (L 0 0)), (1, .int (nI x))] → W p l e (headSpec wsL_areEditors ({ frames := 5, cells := 0, slots := 0, locals := 112 } : Room)).room s m ([.ref (L 0 0)] : List Value).toArray below meth c s.heap [] 0 0 (MQ below (vp_Si (fun r : Int32 => r = nI 1)) ([.ref (L 0 0)] : List Value).toArray s 0 0 (fun _ => False)) (F0 m 2 ls []) := by
    intro n
    induction n with
    | zero => intro x _ hi hn; omega
    | succ n ih1 =>
      intro x ls hi_x hn_x hl 
      refine lv_iload_n hx hb dL_areEditors_2 rfl (lv_at hl 1 rfl) ?_
      refine lv_iconst (v := nI 3) hx hb dL_areEditors_3 (by decide) ?_
      refine kx_icmp_ge (tgt := 291) hx hb (by omega) (by decide) dL_areEditors_4 (by decide) (fun c2 => ?_) (fun c2 => ?_)
      · skip
        refine lv_iconst (v := nI 1) hx hb dL_areEditors_291 (by decide) ?_
        exact W.zret (ty := .boolean) hx hb hr rfl (fun t ht _ => ⟨_, rfl, rfl, ht⟩) (fun _ h => absurd h List.not_mem_nil) dL_areEditors_292
      · skip
        refine lv_iconst (v := nI 0) hx hb dL_areEditors_7 (by decide) ?_
        refine lv_istore_n (lv' := [(2, .int (nI 0)), (0, .ref (L 0 0)), (1, .int (nI x))]) hx hb dL_areEditors_8 rfl hl (by decide) rfl (fun ls hl => ?_)
        refine lv_iconst (v := nI 0) hx hb dL_areEditors_9 (by decide) ?_
        refine lv_istore_n (lv' := [(3, .int (nI 0)), (2, .int (nI 0)), (0, .ref (L 0 0)), (1, .int (nI x))]) hx hb dL_areEditors_10 rfl hl (by decide) rfl (fun ls hl => ?_)
        refine lv_iconst (v := nI 0) hx hb dL_areEditors_11 (by decide) ?_
        refine lv_istore (lv' := [(4, .int (nI 0)), (3, .int (nI 0)), (2, .int (nI 0)), (0, .ref (L 0 0)), (1, .int (nI x))]) hx hb dL_areEditors_12 hl (by decide) rfl (fun ls hl => ?_)
        have LOOP14 : ∀ (n k : Nat) (ls : Array Slot), k ≤ 30 → 30 - k < n → lv_has ls 10 [(0, .ref (L 0 0)), (1, .int (nI x)), (2, .int (nI (pm_cnt S x 1 k))), (3, .int (nI (pm_cnt S x 2 k))), (4, .int (nI k))] → W p l e (headSpec wsL_areEditors ({ frames := 5, cells := 0, slots := 0, locals := 112 } : Room)).room s m ([.ref (L 0 0)] : List Value).toArray below meth c s.heap [] 0 0 (MQ below (vp_Si (fun r : Int32 => r = nI 1)) ([.ref (L 0 0)] : List Value).toArray s 0 0 (fun _ => False)) (F0 m 14 ls []) := by
          intro n
          induction n with
          | zero => intro k _ hi hn; omega
          | succ n ih3 =>
            intro k ls hi_k hn_k hl 
            refine lv_iload hx hb dL_areEditors_14 (lv_at hl 4 rfl) ?_
            refine lv_bipush (v := nI 30) hx hb dL_areEditors_16 (by decide) ?_
            refine kx_icmp_ge (tgt := 65) hx hb (by omega) (by decide) dL_areEditors_18 (by decide) (fun c4 => ?_) (fun c4 => ?_)
            · skip
              obtain rfl : k = 30 := by omega
              have hset := hI.1.set
              have hc1 := pm_cnt_le S x 1 30
              have hc2 := pm_cnt_le S x 2 30
              refine lv_aload_n hx hb dL_areEditors_65 rfl (lv_at hl 0 rfl) ?_
              refine lv_bipush (v := nI 12) hx hb dL_areEditors_66 (by decide) ?_
              refine vp_callSi (W.runV (As := [.int (nI 12)]) (rest := []) ⟨hx, hb, hml, hown, hts⟩ (k_X3_count l D y L S Bs pi kn Gs sv U Bs Gs (nI 12) hI.1) (cwV 1 hts gL_areEditors_X3_count rfl rfl rfl hd_X3_count ⟨Nat.le_of_ble_eq_true rfl, Nat.le_of_ble_eq_true rfl⟩) ⟨pm_ron_blind, va_recv hK hP (ci := 3) (q0 := 0) rfl rfl, pm_ron_pre hP hK hN⟩ rfl rfl hl.1 rfl (lv_room (Nat.le_of_ble_eq_true rfl)) dL_areEditors_68 ⟨Nat.le_of_ble_eq_true rfl, Nat.le_of_ble_eq_true rfl⟩) (fun r5 h6 => ?_)
              obtain rfl : r5 = nI (S 9 1) := h6.trans (pq_co12)
              have := hI.1.set
              refine lv_iload_n hx hb dL_areEditors_71 rfl (lv_at hl 3 rfl) ?_
              refine kx_icmp_le (tgt := 86) hx hb (by omega) (by omega) dL_areEditors_72 (by decide) (fun c7 => ?_) (fun c7 => ?_)
              · skip
                refine lv_iconst (v := nI 0) hx hb dL_areEditors_86 (by decide) ?_
                refine lv_istore (lv' := [(4, .int (nI 0)), (0, .ref (L 0 0)), (1, .int (nI x)), (2, .int (nI (pm_cnt S x 1 30))), (3, .int (nI (pm_cnt S x 2 30)))]) hx hb dL_areEditors_87 hl (by decide) rfl (fun ls hl => ?_)
                refine lv_aload_n hx hb dL_areEditors_89 rfl (lv_at hl 1 rfl) ?_
                refine lv_iload_n hx hb dL_areEditors_90 rfl (lv_at hl 2 rfl) ?_
                refine lv_iconst (v := nI 0) hx hb dL_areEditors_91 (by decide) ?_
                refine vp_callSi (W.runV (As := [.int (nI x), .int (nI 0)]) (rest := []) ⟨hx, hb, hml, hown, hts⟩ (k_X3_editor l D y L S Bs pi kn Gs sv U Bs Gs (nI x) (nI 0) hI.1) (cwV 2 hts gL_areEditors_X3_editor rfl rfl rfl hd_X3_editor ⟨Nat.le_of_ble_eq_true rfl, Nat.le_of_ble_eq_true rfl⟩) ⟨pm_ro_blind, va_recv hK hP (ci := 3) (q0 := 0) rfl rfl, pm_ro_pre hP hK⟩ rfl rfl hl.1 rfl (lv_room (Nat.le_of_ble_eq_true rfl)) dL_areEditors_92 ⟨Nat.le_of_ble_eq_true rfl, Nat.le_of_ble_eq_true rfl⟩) (fun r8 h9 => ?_)
                obtain rfl : r8 = nI (S 5 x) := h9.trans (pq_ed0 (by omega))
                have := hI.1.pts x (by omega)
                refine kx_if_lt (tgt := 140) hx hb (by omega) dL_areEditors_95 (by decide) ?_
                refine lv_aload_n hx hb dL_areEditors_98 rfl (lv_at hl 1 rfl) ?_
                refine lv_iload_n hx hb dL_areEditors_99 rfl (lv_at hl 2 rfl) ?_
                refine lv_iconst (v := nI 0) hx hb dL_areEditors_100 (by decide) ?_
                refine vp_callSi (W.runV (As := [.int (nI x), .int (nI 0)]) (rest := []) ⟨hx, hb, hml, hown, hts⟩ (k_X3_editor l D y L S Bs pi kn Gs sv U Bs Gs (nI x) (nI 0) hI.1) (cwV 2 hts gL_areEditors_X3_editor rfl rfl rfl hd_X3_editor ⟨Nat.le_of_ble_eq_true rfl, Nat.le_of_ble_eq_true rfl⟩) ⟨pm_ro_blind, va_recv hK hP (ci := 3) (q0 := 0) rfl rfl, pm_ro_pre hP hK⟩ rfl rfl hl.1 rfl (lv_room (Nat.le_of_ble_eq_true rfl)) dL_areEditors_101 ⟨Nat.le_of_ble_eq_true rfl, Nat.le_of_ble_eq_true rfl⟩) (fun r10 h11 => ?_)
                obtain rfl : r10 = nI (S 5 x) := h11.trans (pq_ed0 (by omega))
                have := hI.1.pts x (by omega)
                refine lv_bipush (v := nI 20) hx hb dL_areEditors_104 (by decide) ?_
                refine kx_icmp_gt (tgt := 140) hx hb (by omega) (by decide) dL_areEditors_106 (by decide) (fun c12 => by exfalso; omega) (fun c12 => ?_)
                refine lv_aload_n hx hb dL_areEditors_109 rfl (lv_at hl 1 rfl) ?_
                refine lv_iload_n hx hb dL_areEditors_110 rfl (lv_at hl 2 rfl) ?_
                refine lv_iconst (v := nI 1) hx hb dL_areEditors_111 (by decide) ?_
                refine vp_callSi (W.runV (As := [.int (nI x), .int (nI 1)]) (rest := []) ⟨hx, hb, hml, hown, hts⟩ (k_X3_editor l D y L S Bs pi kn Gs sv U Bs Gs (nI x) (nI 1) hI.1) (cwV 2 hts gL_areEditors_X3_editor rfl rfl rfl hd_X3_editor ⟨Nat.le_of_ble_eq_true rfl, Nat.le_of_ble_eq_true rfl⟩) ⟨pm_ro_blind, va_recv hK hP (ci := 3) (q0 := 0) rfl rfl, pm_ro_pre hP hK⟩ rfl rfl hl.1 rfl (lv_room (Nat.le_of_ble_eq_true rfl)) dL_areEditors_112 ⟨Nat.le_of_ble_eq_true rfl, Nat.le_of_ble_eq_true rfl⟩) (fun r13 h14 => ?_)
                obtain rfl : r13 = nI (pm_cnt S x 1 30) := h14.trans (pq_ed1 (by omega))
                have := pm_cnt_le S x 1 30
                refine lv_iload_n hx hb dL_areEditors_115 rfl (lv_at hl 3 rfl) ?_
                refine kx_icmp_ne (tgt := 140) hx hb (by omega) (by omega) dL_areEditors_116 (by decide) (fun c15 => by exfalso; omega) (fun c15 => ?_)
                refine lv_aload_n hx hb dL_areEditors_119 rfl (lv_at hl 1 rfl) ?_
                refine lv_iload_n hx hb dL_areEditors_120 rfl (lv_at hl 2 rfl) ?_
                refine lv_iconst (v := nI 2) hx hb dL_areEditors_121 (by decide) ?_
                refine vp_callSi (W.runV (As := [.int (nI x), .int (nI 2)]) (rest := []) ⟨hx, hb, hml, hown, hts⟩ (k_X3_editor l D y L S Bs pi kn Gs sv U Bs Gs (nI x) (nI 2) hI.1) (cwV 2 hts gL_areEditors_X3_editor rfl rfl rfl hd_X3_editor ⟨Nat.le_of_ble_eq_true rfl, Nat.le_of_ble_eq_true rfl⟩) ⟨pm_ro_blind, va_recv hK hP (ci := 3) (q0 := 0) rfl rfl, pm_ro_pre hP hK⟩ rfl rfl hl.1 rfl (lv_room (Nat.le_of_ble_eq_true rfl)) dL_areEditors_122 ⟨Nat.le_of_ble_eq_true rfl, Nat.le_of_ble_eq_true rfl⟩) (fun r16 h17 => ?_)
                obtain rfl : r16 = nI (pm_cnt S x 2 30) := h17.trans (pq_ed2 (by omega))
                have := pm_cnt_le S x 2 30
                refine lv_iload_n hx hb dL_areEditors_125 rfl (lv_at hl 4 rfl) ?_
                refine kx_icmp_ne (tgt := 140) hx hb (by omega) (by omega) dL_areEditors_126 (by decide) (fun c18 => by exfalso; omega) (fun c18 => ?_)
                refine lv_aload_n hx hb dL_areEditors_129 rfl (lv_at hl 1 rfl) ?_
                refine lv_iload_n hx hb dL_areEditors_130 rfl (lv_at hl 2 rfl) ?_
                refine lv_iconst (v := nI 3) hx hb dL_areEditors_131 (by decide) ?_
                refine vp_callSi (W.runV (As := [.int (nI x), .int (nI 3)]) (rest := []) ⟨hx, hb, hml, hown, hts⟩ (k_X3_editor l D y L S Bs pi kn Gs sv U Bs Gs (nI x) (nI 3) hI.1) (cwV 2 hts gL_areEditors_X3_editor rfl rfl rfl hd_X3_editor ⟨Nat.le_of_ble_eq_true rfl, Nat.le_of_ble_eq_true rfl⟩) ⟨pm_ro_blind, va_recv hK hP (ci := 3) (q0 := 0) rfl rfl, pm_ro_pre hP hK⟩ rfl rfl hl.1 rfl (lv_room (Nat.le_of_ble_eq_true rfl)) dL_areEditors_132 ⟨Nat.le_of_ble_eq_true rfl, Nat.le_of_ble_eq_true rfl⟩) (fun r19 h20 => ?_)
                obtain rfl : r19 = nI (S 9 1 - pm_cnt S x 2 30) := h20.trans (pq_ed3 (by omega))
                have := hI.1.set
                refine lv_iload hx hb dL_areEditors_135 (lv_at hl 0 rfl) ?_
                refine kx_icmp_eq (tgt := 142) hx hb (by omega) (by decide) dL_areEditors_137 (by decide) (fun c21 => ?_) (fun c21 => by exfalso; omega)
                refine lv_iconst (v := nI 0) hx hb dL_areEditors_142 (by decide) ?_
                refine lv_istore (lv' := [(5, .int (nI 0)), (4, .int (nI 0)), (0, .ref (L 0 0)), (1, .int (nI x)), (2, .int (nI (pm_cnt S x 1 30))), (3, .int (nI (pm_cnt S x 2 30)))]) hx hb dL_areEditors_143 hl (by decide) rfl (fun ls hl => ?_)
                have LOOP145 : ∀ (n q : Nat) (ls : Array Slot), q ≤ 3 → 3 - q < n → lv_has ls 10 [(0, .ref (L 0 0)), (1, .int (nI x)), (5, .int (nI q))] → W p l e (headSpec wsL_areEditors ({ frames := 5, cells := 0, slots := 0, locals := 112 } : Room)).room s m ([.ref (L 0 0)] : List Value).toArray below meth c s.heap [] 0 0 (MQ below (vp_Si (fun r : Int32 => r = nI 1)) ([.ref (L 0 0)] : List Value).toArray s 0 0 (fun _ => False)) (F0 m 145 ls []) := by
                  intro n
                  induction n with
                  | zero => intro q _ hi hn; omega
                  | succ n ih22 =>
                    intro q ls hi_q hn_q hl 
                    refine lv_iload hx hb dL_areEditors_145 (lv_at hl 2 rfl) ?_
                    refine lv_iconst (v := nI 3) hx hb dL_areEditors_147 (by decide) ?_
                    refine kx_icmp_ge (tgt := 285) hx hb (by omega) (by decide) dL_areEditors_148 (by decide) (fun c23 => ?_) (fun c23 => ?_)
                    · skip
                      refine kx_iinc (a := x) (lv' := [(1, .int (nI (x + 1))), (0, .ref (L 0 0)), (5, .int (nI q))]) hx hb dL_areEditors_285 hl (k := 1) rfl (by decide) rfl (fun ls hl => ?_)
                      refine lv_goto (tgt := 2) hx hb dL_areEditors_288 (by decide) ?_
                      exact ih1 (x + 1) ls (by omega) (by omega) (by exact lv_sub hl [1, 0] rfl) 
                    · skip
                      refine lv_iconst (v := nI 0) hx hb dL_areEditors_151 (by decide) ?_
                      refine lv_istore (lv' := [(6, .int (nI 0)), (0, .ref (L 0 0)), (1, .int (nI x)), (5, .int (nI q))]) hx hb dL_areEditors_152 hl (by decide) rfl (fun ls hl => ?_)
                      refine lv_iconst (v := nI 0) hx hb dL_areEditors_154 (by decide) ?_
                      refine lv_istore (lv' := [(7, .int (nI 0)), (6, .int (nI 0)), (0, .ref (L 0 0)), (1, .int (nI x)), (5, .int (nI q))]) hx hb dL_areEditors_155 hl (by decide) rfl (fun ls hl => ?_)
                      refine lv_iconst (v := nI 0) hx hb dL_areEditors_157 (by decide) ?_
                      refine lv_istore (lv' := [(8, .int (nI 0)), (7, .int (nI 0)), (6, .int (nI 0)), (0, .ref (L 0 0)), (1, .int (nI x)), (5, .int (nI q))]) hx hb dL_areEditors_158 hl (by decide) rfl (fun ls hl => ?_)
                      have LOOP160 : ∀ (n k : Nat) (ls : Array Slot), k ≤ 30 → 30 - k < n → lv_has ls 10 [(0, .ref (L 0 0)), (1, .int (nI x)), (5, .int (nI q)), (6, .int (nI (pm_bo S x q k))), (7, .int (nI (pm_sa S x q k))), (8, .int (nI k))] → W p l e (headSpec wsL_areEditors ({ frames := 5, cells := 0, slots := 0, locals := 112 } : Room)).room s m ([.ref (L 0 0)] : List Value).toArray below meth c s.heap [] 0 0 (MQ below (vp_Si (fun r : Int32 => r = nI 1)) ([.ref (L 0 0)] : List Value).toArray s 0 0 (fun _ => False)) (F0 m 160 ls []) := by
                        intro n
                        induction n with
                        | zero => intro k _ hi hn; omega
                        | succ n ih24 =>
                          intro k ls hi_k hn_k hl 
                          refine lv_iload hx hb dL_areEditors_160 (lv_at hl 5 rfl) ?_
                          refine lv_bipush (v := nI 30) hx hb dL_areEditors_162 (by decide) ?_
                          refine kx_icmp_ge (tgt := 249) hx hb (by omega) (by decide) dL_areEditors_164 (by decide) (fun c25 => ?_) (fun c25 => ?_)
                          · skip
                            obtain rfl : k = 30 := by omega
                            have hb1 := pq_bo_le S x q 30
                            have hb2 := pq_sa_le S x q 30
                            refine lv_aload_n hx hb dL_areEditors_249 rfl (lv_at hl 0 rfl) ?_
                            refine lv_iload_n hx hb dL_areEditors_250 rfl (lv_at hl 1 rfl) ?_
                            refine lv_iload hx hb dL_areEditors_251 (lv_at hl 2 rfl) ?_
                            refine vp_callSi (W.runV (As := [.int (nI x), .int (nI q)]) (rest := []) ⟨hx, hb, hml, hown, hts⟩ (k_X3_agree l D y L S Bs pi kn Gs sv U Bs Gs (nI x) (nI q) hI.1) (cwV 2 hts gL_areEditors_X3_agree rfl rfl rfl hd_X3_agree ⟨Nat.le_of_ble_eq_true rfl, Nat.le_of_ble_eq_true rfl⟩) ⟨pm_ro_blind, va_recv hK hP (ci := 3) (q0 := 0) rfl rfl, pm_ro_pre hP hK⟩ rfl rfl hl.1 rfl (lv_room (Nat.le_of_ble_eq_true rfl)) dL_areEditors_253 ⟨Nat.le_of_ble_eq_true rfl, Nat.le_of_ble_eq_true rfl⟩) (fun r26 h27 => ?_)
                            obtain rfl : r26 = nI (pq_ag S x q) := h27.trans (pq_agr (by omega) (by omega))
                            have := pq_ag_le S x q
                            refine lv_iload hx hb dL_areEditors_256 (lv_at hl 3 rfl) ?_
                            refine kx_if_ne (tgt := 266) hx hb (by omega) dL_areEditors_258 (by decide) (fun c28 => ?_) (fun c28 => ?_)
                            · skip
                              refine lv_bipush (v := nI 100) hx hb dL_areEditors_266 (by decide) ?_
                              refine lv_iload hx hb dL_areEditors_268 (lv_at hl 4 rfl) ?_
                              refine kx_imul hx hb dL_areEditors_270 ?_
                              refine lv_iload hx hb dL_areEditors_271 (lv_at hl 3 rfl) ?_
                              refine kx_idiv hx hb (by omega) (by omega) (by omega) dL_areEditors_273 ?_
                              refine lv_topi (fun x29 e30 => ?_)
                              obtain rfl : x29 = nI (pq_ag S x q) := e30.trans (pq_ag_2 (by omega))
                              refine kx_icmp_eq (tgt := 279) hx hb (by omega) (by omega) dL_areEditors_274 (by decide) (fun c31 => ?_) (fun c31 => by exfalso; omega)
                              refine kx_iinc (a := q) (lv' := [(5, .int (nI (q + 1))), (0, .ref (L 0 0)), (1, .int (nI x)), (6, .int (nI (pm_bo S x q 30))), (7, .int (nI (pm_sa S x q 30))), (8, .int (nI 30))]) hx hb dL_areEditors_279 hl (k := 2) rfl (by decide) rfl (fun ls hl => ?_)
                              refine lv_goto (tgt := 145) hx hb dL_areEditors_282 (by decide) ?_
                              exact ih22 (q + 1) ls (by omega) (by omega) (by exact lv_sub hl [1, 2, 0] rfl) 
                            · skip
                              refine lv_bipush (v := nI 100) hx hb dL_areEditors_261 (by decide) ?_
                              refine lv_topi (fun x32 e33 => ?_)
                              obtain rfl : x32 = nI (pq_ag S x q) := e33.trans (pq_ag_1 (by omega))
                              refine lv_goto (tgt := 274) hx hb dL_areEditors_263 (by decide) ?_
                              refine kx_icmp_eq (tgt := 279) hx hb (by omega) (by omega) dL_areEditors_274 (by decide) (fun c34 => ?_) (fun c34 => by exfalso; omega)
                              refine kx_iinc (a := q) (lv' := [(5, .int (nI (q + 1))), (0, .ref (L 0 0)), (1, .int (nI x)), (6, .int (nI (pm_bo S x q 30))), (7, .int (nI (pm_sa S x q 30))), (8, .int (nI 30))]) hx hb dL_areEditors_279 hl (k := 2) rfl (by decide) rfl (fun ls hl => ?_)
                              refine lv_goto (tgt := 145) hx hb dL_areEditors_282 (by decide) ?_
                              exact ih22 (q + 1) ls (by omega) (by omega) (by exact lv_sub hl [1, 2, 0] rfl) 
                          · skip
                            have hmk := pm_mk3 (hI.1.okm k (by omega)) (show x < 3 by omega)
                            have hmq := pm_mk3 (hI.1.okm k (by omega)) (show q < 3 by omega)
                            rcases (show pm_mk (S 4 k) x = 0 ∨ pm_mk (S 4 k) x = 1 ∨ pm_mk (S 4 k) x = 2 by omega) with hm | hm | hm
                            · skip
                              rcases (show pm_mk (S 4 k) q = 0 ∨ pm_mk (S 4 k) q = 1 ∨ pm_mk (S 4 k) q = 2 by omega) with hn | hn | hn
                              · skip
                                refine lv_aload_n hx hb dL_areEditors_167 rfl (lv_at hl 0 rfl) ?_
                                refine lv_iload_n hx hb dL_areEditors_168 rfl (lv_at hl 1 rfl) ?_
                                refine lv_iload hx hb dL_areEditors_169 (lv_at hl 5 rfl) ?_
                                refine vp_callSi (W.runS (As := [.ref (L 0 0), .int (nI x), .int (nI k)]) (rest := []) ⟨hx, hb, hml, hown, hts⟩ (k_L_mark l D y L S Bs pi kn Gs sv U x k hI (by omega) (by omega)) (va_cwS 3 hts gL_areEditors_L_mark rfl rfl rfl hd_L_mark ⟨Nat.le_of_ble_eq_true rfl, Nat.le_of_ble_eq_true rfl⟩) ⟨pm_ro_blind, pm_ro_pre hP hK⟩ rfl rfl hl.1 rfl (lv_room (Nat.le_of_ble_eq_true rfl)) dL_areEditors_171 ⟨Nat.le_of_ble_eq_true rfl, Nat.le_of_ble_eq_true rfl⟩) (fun r35 h36 => ?_)
                                obtain rfl : r35 = nI 0 := h36.trans (congrArg nI hm)
                                refine lv_if_le (tgt := 192) hx hb dL_areEditors_174 (by decide) (fun _ => ?_) (fun c37 => (c37 (by decide)).elim)
                                refine lv_iconst (v := nI 0) hx hb dL_areEditors_192 (by decide) ?_
                                refine lv_istore (lv' := [(9, .int (nI 0)), (0, .ref (L 0 0)), (1, .int (nI x)), (5, .int (nI q)), (6, .int (nI (pm_bo S x q k))), (7, .int (nI (pm_sa S x q k))), (8, .int (nI k))]) hx hb dL_areEditors_193 hl (by decide) rfl (fun ls hl => ?_)
                                refine lv_iload hx hb dL_areEditors_195 (lv_at hl 4 rfl) ?_
                                refine lv_iload hx hb dL_areEditors_197 (lv_at hl 0 rfl) ?_
                                refine lv_if_eq (tgt := 206) hx hb dL_areEditors_199 (by decide) (fun _ => ?_) (fun c38 => (c38 (by decide)).elim)
                                refine lv_iconst (v := nI 0) hx hb dL_areEditors_206 (by decide) ?_
                                refine kx_iadd hx hb dL_areEditors_207 ?_
                                refine lv_istore (lv' := [(6, .int (nI ((pm_bo S x q k) + 0))), (9, .int (nI 0)), (0, .ref (L 0 0)), (1, .int (nI x)), (5, .int (nI q)), (7, .int (nI (pm_sa S x q k))), (8, .int (nI k))]) hx hb dL_areEditors_208 hl (by decide) rfl (fun ls hl => ?_)
                                refine lv_iload hx hb dL_areEditors_210 (lv_at hl 5 rfl) ?_
                                refine lv_iload hx hb dL_areEditors_212 (lv_at hl 1 rfl) ?_
                                refine lv_if_eq (tgt := 239) hx hb dL_areEditors_214 (by decide) (fun _ => ?_) (fun c39 => (c39 (by decide)).elim)
                                refine lv_iconst (v := nI 0) hx hb dL_areEditors_239 (by decide) ?_
                                refine kx_iadd hx hb dL_areEditors_240 ?_
                                refine lv_istore (lv' := [(7, .int (nI ((pm_sa S x q k) + 0))), (6, .int (nI ((pm_bo S x q k) + 0))), (9, .int (nI 0)), (0, .ref (L 0 0)), (1, .int (nI x)), (5, .int (nI q)), (8, .int (nI k))]) hx hb dL_areEditors_241 hl (by decide) rfl (fun ls hl => ?_)
                                refine kx_iinc (a := k) (lv' := [(8, .int (nI (k + 1))), (7, .int (nI ((pm_sa S x q k) + 0))), (6, .int (nI ((pm_bo S x q k) + 0))), (9, .int (nI 0)), (0, .ref (L 0 0)), (1, .int (nI x)), (5, .int (nI q))]) hx hb dL_areEditors_243 hl (k := 6) rfl (by decide) rfl (fun ls hl => ?_)
                                refine lv_goto (tgt := 160) hx hb dL_areEditors_246 (by decide) ?_
                                have q40 : (nI (pm_bo S x q (k + 1)) : Int32) = nI ((pm_bo S x q k) + 0) := (congrArg nI (by first | exact pm_num_p (decide_eq_true (by omega)) | exact pm_num_n (decide_eq_false (by omega))))
                                have q41 : (nI (pm_sa S x q (k + 1)) : Int32) = nI ((pm_sa S x q k) + 0) := (congrArg nI (by first | exact pm_num_p (decide_eq_true (by omega)) | exact pm_num_n (decide_eq_false (by omega))))
                                exact ih24 (k + 1) ls (by omega) (by omega) (by rw [q40, q41]; exact lv_sub hl [4, 5, 6, 2, 1, 0] rfl) 
                              · skip
                                refine lv_aload_n hx hb dL_areEditors_167 rfl (lv_at hl 0 rfl) ?_
                                refine lv_iload_n hx hb dL_areEditors_168 rfl (lv_at hl 1 rfl) ?_
                                refine lv_iload hx hb dL_areEditors_169 (lv_at hl 5 rfl) ?_
                                refine vp_callSi (W.runS (As := [.ref (L 0 0), .int (nI x), .int (nI k)]) (rest := []) ⟨hx, hb, hml, hown, hts⟩ (k_L_mark l D y L S Bs pi kn Gs sv U x k hI (by omega) (by omega)) (va_cwS 3 hts gL_areEditors_L_mark rfl rfl rfl hd_L_mark ⟨Nat.le_of_ble_eq_true rfl, Nat.le_of_ble_eq_true rfl⟩) ⟨pm_ro_blind, pm_ro_pre hP hK⟩ rfl rfl hl.1 rfl (lv_room (Nat.le_of_ble_eq_true rfl)) dL_areEditors_171 ⟨Nat.le_of_ble_eq_true rfl, Nat.le_of_ble_eq_true rfl⟩) (fun r42 h43 => ?_)
                                obtain rfl : r42 = nI 0 := h43.trans (congrArg nI hm)
                                refine lv_if_le (tgt := 192) hx hb dL_areEditors_174 (by decide) (fun _ => ?_) (fun c44 => (c44 (by decide)).elim)
                                refine lv_iconst (v := nI 0) hx hb dL_areEditors_192 (by decide) ?_
                                refine lv_istore (lv' := [(9, .int (nI 0)), (0, .ref (L 0 0)), (1, .int (nI x)), (5, .int (nI q)), (6, .int (nI (pm_bo S x q k))), (7, .int (nI (pm_sa S x q k))), (8, .int (nI k))]) hx hb dL_areEditors_193 hl (by decide) rfl (fun ls hl => ?_)
                                refine lv_iload hx hb dL_areEditors_195 (lv_at hl 4 rfl) ?_
                                refine lv_iload hx hb dL_areEditors_197 (lv_at hl 0 rfl) ?_
                                refine lv_if_eq (tgt := 206) hx hb dL_areEditors_199 (by decide) (fun _ => ?_) (fun c45 => (c45 (by decide)).elim)
                                refine lv_iconst (v := nI 0) hx hb dL_areEditors_206 (by decide) ?_
                                refine kx_iadd hx hb dL_areEditors_207 ?_
                                refine lv_istore (lv' := [(6, .int (nI ((pm_bo S x q k) + 0))), (9, .int (nI 0)), (0, .ref (L 0 0)), (1, .int (nI x)), (5, .int (nI q)), (7, .int (nI (pm_sa S x q k))), (8, .int (nI k))]) hx hb dL_areEditors_208 hl (by decide) rfl (fun ls hl => ?_)
                                refine lv_iload hx hb dL_areEditors_210 (lv_at hl 5 rfl) ?_
                                refine lv_iload hx hb dL_areEditors_212 (lv_at hl 1 rfl) ?_
                                refine lv_if_eq (tgt := 239) hx hb dL_areEditors_214 (by decide) (fun _ => ?_) (fun c46 => (c46 (by decide)).elim)
                                refine lv_iconst (v := nI 0) hx hb dL_areEditors_239 (by decide) ?_
                                refine kx_iadd hx hb dL_areEditors_240 ?_
                                refine lv_istore (lv' := [(7, .int (nI ((pm_sa S x q k) + 0))), (6, .int (nI ((pm_bo S x q k) + 0))), (9, .int (nI 0)), (0, .ref (L 0 0)), (1, .int (nI x)), (5, .int (nI q)), (8, .int (nI k))]) hx hb dL_areEditors_241 hl (by decide) rfl (fun ls hl => ?_)
                                refine kx_iinc (a := k) (lv' := [(8, .int (nI (k + 1))), (7, .int (nI ((pm_sa S x q k) + 0))), (6, .int (nI ((pm_bo S x q k) + 0))), (9, .int (nI 0)), (0, .ref (L 0 0)), (1, .int (nI x)), (5, .int (nI q))]) hx hb dL_areEditors_243 hl (k := 6) rfl (by decide) rfl (fun ls hl => ?_)
                                refine lv_goto (tgt := 160) hx hb dL_areEditors_246 (by decide) ?_
                                have q47 : (nI (pm_bo S x q (k + 1)) : Int32) = nI ((pm_bo S x q k) + 0) := (congrArg nI (by first | exact pm_num_p (decide_eq_true (by omega)) | exact pm_num_n (decide_eq_false (by omega))))
                                have q48 : (nI (pm_sa S x q (k + 1)) : Int32) = nI ((pm_sa S x q k) + 0) := (congrArg nI (by first | exact pm_num_p (decide_eq_true (by omega)) | exact pm_num_n (decide_eq_false (by omega))))
                                exact ih24 (k + 1) ls (by omega) (by omega) (by rw [q47, q48]; exact lv_sub hl [4, 5, 6, 2, 1, 0] rfl) 
                              · skip
                                refine lv_aload_n hx hb dL_areEditors_167 rfl (lv_at hl 0 rfl) ?_
                                refine lv_iload_n hx hb dL_areEditors_168 rfl (lv_at hl 1 rfl) ?_
                                refine lv_iload hx hb dL_areEditors_169 (lv_at hl 5 rfl) ?_
                                refine vp_callSi (W.runS (As := [.ref (L 0 0), .int (nI x), .int (nI k)]) (rest := []) ⟨hx, hb, hml, hown, hts⟩ (k_L_mark l D y L S Bs pi kn Gs sv U x k hI (by omega) (by omega)) (va_cwS 3 hts gL_areEditors_L_mark rfl rfl rfl hd_L_mark ⟨Nat.le_of_ble_eq_true rfl, Nat.le_of_ble_eq_true rfl⟩) ⟨pm_ro_blind, pm_ro_pre hP hK⟩ rfl rfl hl.1 rfl (lv_room (Nat.le_of_ble_eq_true rfl)) dL_areEditors_171 ⟨Nat.le_of_ble_eq_true rfl, Nat.le_of_ble_eq_true rfl⟩) (fun r49 h50 => ?_)
                                obtain rfl : r49 = nI 0 := h50.trans (congrArg nI hm)
                                refine lv_if_le (tgt := 192) hx hb dL_areEditors_174 (by decide) (fun _ => ?_) (fun c51 => (c51 (by decide)).elim)
                                refine lv_iconst (v := nI 0) hx hb dL_areEditors_192 (by decide) ?_
                                refine lv_istore (lv' := [(9, .int (nI 0)), (0, .ref (L 0 0)), (1, .int (nI x)), (5, .int (nI q)), (6, .int (nI (pm_bo S x q k))), (7, .int (nI (pm_sa S x q k))), (8, .int (nI k))]) hx hb dL_areEditors_193 hl (by decide) rfl (fun ls hl => ?_)
                                refine lv_iload hx hb dL_areEditors_195 (lv_at hl 4 rfl) ?_
                                refine lv_iload hx hb dL_areEditors_197 (lv_at hl 0 rfl) ?_
                                refine lv_if_eq (tgt := 206) hx hb dL_areEditors_199 (by decide) (fun _ => ?_) (fun c52 => (c52 (by decide)).elim)
                                refine lv_iconst (v := nI 0) hx hb dL_areEditors_206 (by decide) ?_
                                refine kx_iadd hx hb dL_areEditors_207 ?_
                                refine lv_istore (lv' := [(6, .int (nI ((pm_bo S x q k) + 0))), (9, .int (nI 0)), (0, .ref (L 0 0)), (1, .int (nI x)), (5, .int (nI q)), (7, .int (nI (pm_sa S x q k))), (8, .int (nI k))]) hx hb dL_areEditors_208 hl (by decide) rfl (fun ls hl => ?_)
                                refine lv_iload hx hb dL_areEditors_210 (lv_at hl 5 rfl) ?_
                                refine lv_iload hx hb dL_areEditors_212 (lv_at hl 1 rfl) ?_
                                refine lv_if_eq (tgt := 239) hx hb dL_areEditors_214 (by decide) (fun _ => ?_) (fun c53 => (c53 (by decide)).elim)
                                refine lv_iconst (v := nI 0) hx hb dL_areEditors_239 (by decide) ?_
                                refine kx_iadd hx hb dL_areEditors_240 ?_
                                refine lv_istore (lv' := [(7, .int (nI ((pm_sa S x q k) + 0))), (6, .int (nI ((pm_bo S x q k) + 0))), (9, .int (nI 0)), (0, .ref (L 0 0)), (1, .int (nI x)), (5, .int (nI q)), (8, .int (nI k))]) hx hb dL_areEditors_241 hl (by decide) rfl (fun ls hl => ?_)
                                refine kx_iinc (a := k) (lv' := [(8, .int (nI (k + 1))), (7, .int (nI ((pm_sa S x q k) + 0))), (6, .int (nI ((pm_bo S x q k) + 0))), (9, .int (nI 0)), (0, .ref (L 0 0)), (1, .int (nI x)), (5, .int (nI q))]) hx hb dL_areEditors_243 hl (k := 6) rfl (by decide) rfl (fun ls hl => ?_)
                                refine lv_goto (tgt := 160) hx hb dL_areEditors_246 (by decide) ?_
                                have q54 : (nI (pm_bo S x q (k + 1)) : Int32) = nI ((pm_bo S x q k) + 0) := (congrArg nI (by first | exact pm_num_p (decide_eq_true (by omega)) | exact pm_num_n (decide_eq_false (by omega))))
                                have q55 : (nI (pm_sa S x q (k + 1)) : Int32) = nI ((pm_sa S x q k) + 0) := (congrArg nI (by first | exact pm_num_p (decide_eq_true (by omega)) | exact pm_num_n (decide_eq_false (by omega))))
                                exact ih24 (k + 1) ls (by omega) (by omega) (by rw [q54, q55]; exact lv_sub hl [4, 5, 6, 2, 1, 0] rfl) 
                            · skip
                              rcases (show pm_mk (S 4 k) q = 0 ∨ pm_mk (S 4 k) q = 1 ∨ pm_mk (S 4 k) q = 2 by omega) with hn | hn | hn
                              · skip
                                refine lv_aload_n hx hb dL_areEditors_167 rfl (lv_at hl 0 rfl) ?_
                                refine lv_iload_n hx hb dL_areEditors_168 rfl (lv_at hl 1 rfl) ?_
                                refine lv_iload hx hb dL_areEditors_169 (lv_at hl 5 rfl) ?_
                                refine vp_callSi (W.runS (As := [.ref (L 0 0), .int (nI x), .int (nI k)]) (rest := []) ⟨hx, hb, hml, hown, hts⟩ (k_L_mark l D y L S Bs pi kn Gs sv U x k hI (by omega) (by omega)) (va_cwS 3 hts gL_areEditors_L_mark rfl rfl rfl hd_L_mark ⟨Nat.le_of_ble_eq_true rfl, Nat.le_of_ble_eq_true rfl⟩) ⟨pm_ro_blind, pm_ro_pre hP hK⟩ rfl rfl hl.1 rfl (lv_room (Nat.le_of_ble_eq_true rfl)) dL_areEditors_171 ⟨Nat.le_of_ble_eq_true rfl, Nat.le_of_ble_eq_true rfl⟩) (fun r56 h57 => ?_)
                                obtain rfl : r56 = nI 1 := h57.trans (congrArg nI hm)
                                refine lv_if_le (tgt := 192) hx hb dL_areEditors_174 (by decide) (fun c58 => absurd c58 (by decide)) (fun _ => ?_)
                                refine lv_aload_n hx hb dL_areEditors_177 rfl (lv_at hl 0 rfl) ?_
                                refine lv_iload hx hb dL_areEditors_178 (lv_at hl 2 rfl) ?_
                                refine lv_iload hx hb dL_areEditors_180 (lv_at hl 5 rfl) ?_
                                refine vp_callSi (W.runS (As := [.ref (L 0 0), .int (nI q), .int (nI k)]) (rest := []) ⟨hx, hb, hml, hown, hts⟩ (k_L_mark l D y L S Bs pi kn Gs sv U q k hI (by omega) (by omega)) (va_cwS 3 hts gL_areEditors_L_mark rfl rfl rfl hd_L_mark ⟨Nat.le_of_ble_eq_true rfl, Nat.le_of_ble_eq_true rfl⟩) ⟨pm_ro_blind, pm_ro_pre hP hK⟩ rfl rfl hl.1 rfl (lv_room (Nat.le_of_ble_eq_true rfl)) dL_areEditors_182 ⟨Nat.le_of_ble_eq_true rfl, Nat.le_of_ble_eq_true rfl⟩) (fun r59 h60 => ?_)
                                obtain rfl : r59 = nI 0 := h60.trans (congrArg nI hn)
                                refine lv_if_le (tgt := 192) hx hb dL_areEditors_185 (by decide) (fun _ => ?_) (fun c61 => (c61 (by decide)).elim)
                                refine lv_iconst (v := nI 0) hx hb dL_areEditors_192 (by decide) ?_
                                refine lv_istore (lv' := [(9, .int (nI 0)), (0, .ref (L 0 0)), (1, .int (nI x)), (5, .int (nI q)), (6, .int (nI (pm_bo S x q k))), (7, .int (nI (pm_sa S x q k))), (8, .int (nI k))]) hx hb dL_areEditors_193 hl (by decide) rfl (fun ls hl => ?_)
                                refine lv_iload hx hb dL_areEditors_195 (lv_at hl 4 rfl) ?_
                                refine lv_iload hx hb dL_areEditors_197 (lv_at hl 0 rfl) ?_
                                refine lv_if_eq (tgt := 206) hx hb dL_areEditors_199 (by decide) (fun _ => ?_) (fun c62 => (c62 (by decide)).elim)
                                refine lv_iconst (v := nI 0) hx hb dL_areEditors_206 (by decide) ?_
                                refine kx_iadd hx hb dL_areEditors_207 ?_
                                refine lv_istore (lv' := [(6, .int (nI ((pm_bo S x q k) + 0))), (9, .int (nI 0)), (0, .ref (L 0 0)), (1, .int (nI x)), (5, .int (nI q)), (7, .int (nI (pm_sa S x q k))), (8, .int (nI k))]) hx hb dL_areEditors_208 hl (by decide) rfl (fun ls hl => ?_)
                                refine lv_iload hx hb dL_areEditors_210 (lv_at hl 5 rfl) ?_
                                refine lv_iload hx hb dL_areEditors_212 (lv_at hl 1 rfl) ?_
                                refine lv_if_eq (tgt := 239) hx hb dL_areEditors_214 (by decide) (fun _ => ?_) (fun c63 => (c63 (by decide)).elim)
                                refine lv_iconst (v := nI 0) hx hb dL_areEditors_239 (by decide) ?_
                                refine kx_iadd hx hb dL_areEditors_240 ?_
                                refine lv_istore (lv' := [(7, .int (nI ((pm_sa S x q k) + 0))), (6, .int (nI ((pm_bo S x q k) + 0))), (9, .int (nI 0)), (0, .ref (L 0 0)), (1, .int (nI x)), (5, .int (nI q)), (8, .int (nI k))]) hx hb dL_areEditors_241 hl (by decide) rfl (fun ls hl => ?_)
                                refine kx_iinc (a := k) (lv' := [(8, .int (nI (k + 1))), (7, .int (nI ((pm_sa S x q k) + 0))), (6, .int (nI ((pm_bo S x q k) + 0))), (9, .int (nI 0)), (0, .ref (L 0 0)), (1, .int (nI x)), (5, .int (nI q))]) hx hb dL_areEditors_243 hl (k := 6) rfl (by decide) rfl (fun ls hl => ?_)
                                refine lv_goto (tgt := 160) hx hb dL_areEditors_246 (by decide) ?_
                                have q64 : (nI (pm_bo S x q (k + 1)) : Int32) = nI ((pm_bo S x q k) + 0) := (congrArg nI (by first | exact pm_num_p (decide_eq_true (by omega)) | exact pm_num_n (decide_eq_false (by omega))))
                                have q65 : (nI (pm_sa S x q (k + 1)) : Int32) = nI ((pm_sa S x q k) + 0) := (congrArg nI (by first | exact pm_num_p (decide_eq_true (by omega)) | exact pm_num_n (decide_eq_false (by omega))))
                                exact ih24 (k + 1) ls (by omega) (by omega) (by rw [q64, q65]; exact lv_sub hl [4, 5, 6, 2, 1, 0] rfl) 
                              · skip
                                refine lv_aload_n hx hb dL_areEditors_167 rfl (lv_at hl 0 rfl) ?_
                                refine lv_iload_n hx hb dL_areEditors_168 rfl (lv_at hl 1 rfl) ?_
                                refine lv_iload hx hb dL_areEditors_169 (lv_at hl 5 rfl) ?_
                                refine vp_callSi (W.runS (As := [.ref (L 0 0), .int (nI x), .int (nI k)]) (rest := []) ⟨hx, hb, hml, hown, hts⟩ (k_L_mark l D y L S Bs pi kn Gs sv U x k hI (by omega) (by omega)) (va_cwS 3 hts gL_areEditors_L_mark rfl rfl rfl hd_L_mark ⟨Nat.le_of_ble_eq_true rfl, Nat.le_of_ble_eq_true rfl⟩) ⟨pm_ro_blind, pm_ro_pre hP hK⟩ rfl rfl hl.1 rfl (lv_room (Nat.le_of_ble_eq_true rfl)) dL_areEditors_171 ⟨Nat.le_of_ble_eq_true rfl, Nat.le_of_ble_eq_true rfl⟩) (fun r66 h67 => ?_)
                                obtain rfl : r66 = nI 1 := h67.trans (congrArg nI hm)
                                refine lv_if_le (tgt := 192) hx hb dL_areEditors_174 (by decide) (fun c68 => absurd c68 (by decide)) (fun _ => ?_)
                                refine lv_aload_n hx hb dL_areEditors_177 rfl (lv_at hl 0 rfl) ?_
                                refine lv_iload hx hb dL_areEditors_178 (lv_at hl 2 rfl) ?_
                                refine lv_iload hx hb dL_areEditors_180 (lv_at hl 5 rfl) ?_
                                refine vp_callSi (W.runS (As := [.ref (L 0 0), .int (nI q), .int (nI k)]) (rest := []) ⟨hx, hb, hml, hown, hts⟩ (k_L_mark l D y L S Bs pi kn Gs sv U q k hI (by omega) (by omega)) (va_cwS 3 hts gL_areEditors_L_mark rfl rfl rfl hd_L_mark ⟨Nat.le_of_ble_eq_true rfl, Nat.le_of_ble_eq_true rfl⟩) ⟨pm_ro_blind, pm_ro_pre hP hK⟩ rfl rfl hl.1 rfl (lv_room (Nat.le_of_ble_eq_true rfl)) dL_areEditors_182 ⟨Nat.le_of_ble_eq_true rfl, Nat.le_of_ble_eq_true rfl⟩) (fun r69 h70 => ?_)
                                obtain rfl : r69 = nI 1 := h70.trans (congrArg nI hn)
                                refine lv_if_le (tgt := 192) hx hb dL_areEditors_185 (by decide) (fun c71 => absurd c71 (by decide)) (fun _ => ?_)
                                refine lv_iconst (v := nI 1) hx hb dL_areEditors_188 (by decide) ?_
                                refine lv_goto (tgt := 193) hx hb dL_areEditors_189 (by decide) ?_
                                refine lv_istore (lv' := [(9, .int (nI 1)), (0, .ref (L 0 0)), (1, .int (nI x)), (5, .int (nI q)), (6, .int (nI (pm_bo S x q k))), (7, .int (nI (pm_sa S x q k))), (8, .int (nI k))]) hx hb dL_areEditors_193 hl (by decide) rfl (fun ls hl => ?_)
                                refine lv_iload hx hb dL_areEditors_195 (lv_at hl 4 rfl) ?_
                                refine lv_iload hx hb dL_areEditors_197 (lv_at hl 0 rfl) ?_
                                refine lv_if_eq (tgt := 206) hx hb dL_areEditors_199 (by decide) (fun c72 => absurd c72 (by decide)) (fun _ => ?_)
                                refine lv_iconst (v := nI 1) hx hb dL_areEditors_202 (by decide) ?_
                                refine lv_goto (tgt := 207) hx hb dL_areEditors_203 (by decide) ?_
                                refine kx_iadd hx hb dL_areEditors_207 ?_
                                refine lv_istore (lv' := [(6, .int (nI ((pm_bo S x q k) + 1))), (9, .int (nI 1)), (0, .ref (L 0 0)), (1, .int (nI x)), (5, .int (nI q)), (7, .int (nI (pm_sa S x q k))), (8, .int (nI k))]) hx hb dL_areEditors_208 hl (by decide) rfl (fun ls hl => ?_)
                                refine lv_iload hx hb dL_areEditors_210 (lv_at hl 5 rfl) ?_
                                refine lv_iload hx hb dL_areEditors_212 (lv_at hl 1 rfl) ?_
                                refine lv_if_eq (tgt := 239) hx hb dL_areEditors_214 (by decide) (fun c73 => absurd c73 (by decide)) (fun _ => ?_)
                                refine lv_aload_n hx hb dL_areEditors_217 rfl (lv_at hl 2 rfl) ?_
                                refine lv_iload_n hx hb dL_areEditors_218 rfl (lv_at hl 3 rfl) ?_
                                refine lv_iload hx hb dL_areEditors_219 (lv_at hl 6 rfl) ?_
                                refine vp_callSi (W.runS (As := [.ref (L 0 0), .int (nI x), .int (nI k)]) (rest := [.int (nI (pm_sa S x q k))]) ⟨hx, hb, hml, hown, hts⟩ (k_L_mark l D y L S Bs pi kn Gs sv U x k hI (by omega) (by omega)) (va_cwS 3 hts gL_areEditors_L_mark rfl rfl rfl hd_L_mark ⟨Nat.le_of_ble_eq_true rfl, Nat.le_of_ble_eq_true rfl⟩) ⟨pm_ro_blind, pm_ro_pre hP hK⟩ rfl rfl hl.1 rfl (lv_room (Nat.le_of_ble_eq_true rfl)) dL_areEditors_221 ⟨Nat.le_of_ble_eq_true rfl, Nat.le_of_ble_eq_true rfl⟩) (fun r74 h75 => ?_)
                                obtain rfl : r74 = nI 1 := h75.trans (congrArg nI hm)
                                refine lv_aload_n hx hb dL_areEditors_224 rfl (lv_at hl 2 rfl) ?_
                                refine lv_iload hx hb dL_areEditors_225 (lv_at hl 4 rfl) ?_
                                refine lv_iload hx hb dL_areEditors_227 (lv_at hl 6 rfl) ?_
                                refine vp_callSi (W.runS (As := [.ref (L 0 0), .int (nI q), .int (nI k)]) (rest := [.int (nI 1), .int (nI (pm_sa S x q k))]) ⟨hx, hb, hml, hown, hts⟩ (k_L_mark l D y L S Bs pi kn Gs sv U q k hI (by omega) (by omega)) (va_cwS 3 hts gL_areEditors_L_mark rfl rfl rfl hd_L_mark ⟨Nat.le_of_ble_eq_true rfl, Nat.le_of_ble_eq_true rfl⟩) ⟨pm_ro_blind, pm_ro_pre hP hK⟩ rfl rfl hl.1 rfl (lv_room (Nat.le_of_ble_eq_true rfl)) dL_areEditors_229 ⟨Nat.le_of_ble_eq_true rfl, Nat.le_of_ble_eq_true rfl⟩) (fun r76 h77 => ?_)
                                obtain rfl : r76 = nI 1 := h77.trans (congrArg nI hn)
                                refine lv_icmp_ne (tgt := 239) hx hb dL_areEditors_232 (by decide) (fun c78 => (c78 (by decide)).elim) (fun _ => ?_)
                                refine lv_iconst (v := nI 1) hx hb dL_areEditors_235 (by decide) ?_
                                refine lv_goto (tgt := 240) hx hb dL_areEditors_236 (by decide) ?_
                                refine kx_iadd hx hb dL_areEditors_240 ?_
                                refine lv_istore (lv' := [(7, .int (nI ((pm_sa S x q k) + 1))), (6, .int (nI ((pm_bo S x q k) + 1))), (9, .int (nI 1)), (0, .ref (L 0 0)), (1, .int (nI x)), (5, .int (nI q)), (8, .int (nI k))]) hx hb dL_areEditors_241 hl (by decide) rfl (fun ls hl => ?_)
                                refine kx_iinc (a := k) (lv' := [(8, .int (nI (k + 1))), (7, .int (nI ((pm_sa S x q k) + 1))), (6, .int (nI ((pm_bo S x q k) + 1))), (9, .int (nI 1)), (0, .ref (L 0 0)), (1, .int (nI x)), (5, .int (nI q))]) hx hb dL_areEditors_243 hl (k := 6) rfl (by decide) rfl (fun ls hl => ?_)
                                refine lv_goto (tgt := 160) hx hb dL_areEditors_246 (by decide) ?_
                                have q79 : (nI (pm_bo S x q (k + 1)) : Int32) = nI ((pm_bo S x q k) + 1) := (congrArg nI (by first | exact pm_num_p (decide_eq_true (by omega)) | exact pm_num_n (decide_eq_false (by omega))))
                                have q80 : (nI (pm_sa S x q (k + 1)) : Int32) = nI ((pm_sa S x q k) + 1) := (congrArg nI (by first | exact pm_num_p (decide_eq_true (by omega)) | exact pm_num_n (decide_eq_false (by omega))))
                                exact ih24 (k + 1) ls (by omega) (by omega) (by rw [q79, q80]; exact lv_sub hl [4, 5, 6, 2, 1, 0] rfl) 
                              · skip
                                refine lv_aload_n hx hb dL_areEditors_167 rfl (lv_at hl 0 rfl) ?_
                                refine lv_iload_n hx hb dL_areEditors_168 rfl (lv_at hl 1 rfl) ?_
                                refine lv_iload hx hb dL_areEditors_169 (lv_at hl 5 rfl) ?_
                                refine vp_callSi (W.runS (As := [.ref (L 0 0), .int (nI x), .int (nI k)]) (rest := []) ⟨hx, hb, hml, hown, hts⟩ (k_L_mark l D y L S Bs pi kn Gs sv U x k hI (by omega) (by omega)) (va_cwS 3 hts gL_areEditors_L_mark rfl rfl rfl hd_L_mark ⟨Nat.le_of_ble_eq_true rfl, Nat.le_of_ble_eq_true rfl⟩) ⟨pm_ro_blind, pm_ro_pre hP hK⟩ rfl rfl hl.1 rfl (lv_room (Nat.le_of_ble_eq_true rfl)) dL_areEditors_171 ⟨Nat.le_of_ble_eq_true rfl, Nat.le_of_ble_eq_true rfl⟩) (fun r81 h82 => ?_)
                                obtain rfl : r81 = nI 1 := h82.trans (congrArg nI hm)
                                refine lv_if_le (tgt := 192) hx hb dL_areEditors_174 (by decide) (fun c83 => absurd c83 (by decide)) (fun _ => ?_)
                                refine lv_aload_n hx hb dL_areEditors_177 rfl (lv_at hl 0 rfl) ?_
                                refine lv_iload hx hb dL_areEditors_178 (lv_at hl 2 rfl) ?_
                                refine lv_iload hx hb dL_areEditors_180 (lv_at hl 5 rfl) ?_
                                refine vp_callSi (W.runS (As := [.ref (L 0 0), .int (nI q), .int (nI k)]) (rest := []) ⟨hx, hb, hml, hown, hts⟩ (k_L_mark l D y L S Bs pi kn Gs sv U q k hI (by omega) (by omega)) (va_cwS 3 hts gL_areEditors_L_mark rfl rfl rfl hd_L_mark ⟨Nat.le_of_ble_eq_true rfl, Nat.le_of_ble_eq_true rfl⟩) ⟨pm_ro_blind, pm_ro_pre hP hK⟩ rfl rfl hl.1 rfl (lv_room (Nat.le_of_ble_eq_true rfl)) dL_areEditors_182 ⟨Nat.le_of_ble_eq_true rfl, Nat.le_of_ble_eq_true rfl⟩) (fun r84 h85 => ?_)
                                obtain rfl : r84 = nI 2 := h85.trans (congrArg nI hn)
                                refine lv_if_le (tgt := 192) hx hb dL_areEditors_185 (by decide) (fun c86 => absurd c86 (by decide)) (fun _ => ?_)
                                refine lv_iconst (v := nI 1) hx hb dL_areEditors_188 (by decide) ?_
                                refine lv_goto (tgt := 193) hx hb dL_areEditors_189 (by decide) ?_
                                refine lv_istore (lv' := [(9, .int (nI 1)), (0, .ref (L 0 0)), (1, .int (nI x)), (5, .int (nI q)), (6, .int (nI (pm_bo S x q k))), (7, .int (nI (pm_sa S x q k))), (8, .int (nI k))]) hx hb dL_areEditors_193 hl (by decide) rfl (fun ls hl => ?_)
                                refine lv_iload hx hb dL_areEditors_195 (lv_at hl 4 rfl) ?_
                                refine lv_iload hx hb dL_areEditors_197 (lv_at hl 0 rfl) ?_
                                refine lv_if_eq (tgt := 206) hx hb dL_areEditors_199 (by decide) (fun c87 => absurd c87 (by decide)) (fun _ => ?_)
                                refine lv_iconst (v := nI 1) hx hb dL_areEditors_202 (by decide) ?_
                                refine lv_goto (tgt := 207) hx hb dL_areEditors_203 (by decide) ?_
                                refine kx_iadd hx hb dL_areEditors_207 ?_
                                refine lv_istore (lv' := [(6, .int (nI ((pm_bo S x q k) + 1))), (9, .int (nI 1)), (0, .ref (L 0 0)), (1, .int (nI x)), (5, .int (nI q)), (7, .int (nI (pm_sa S x q k))), (8, .int (nI k))]) hx hb dL_areEditors_208 hl (by decide) rfl (fun ls hl => ?_)
                                refine lv_iload hx hb dL_areEditors_210 (lv_at hl 5 rfl) ?_
                                refine lv_iload hx hb dL_areEditors_212 (lv_at hl 1 rfl) ?_
                                refine lv_if_eq (tgt := 239) hx hb dL_areEditors_214 (by decide) (fun c88 => absurd c88 (by decide)) (fun _ => ?_)
                                refine lv_aload_n hx hb dL_areEditors_217 rfl (lv_at hl 2 rfl) ?_
                                refine lv_iload_n hx hb dL_areEditors_218 rfl (lv_at hl 3 rfl) ?_
                                refine lv_iload hx hb dL_areEditors_219 (lv_at hl 6 rfl) ?_
                                refine vp_callSi (W.runS (As := [.ref (L 0 0), .int (nI x), .int (nI k)]) (rest := [.int (nI (pm_sa S x q k))]) ⟨hx, hb, hml, hown, hts⟩ (k_L_mark l D y L S Bs pi kn Gs sv U x k hI (by omega) (by omega)) (va_cwS 3 hts gL_areEditors_L_mark rfl rfl rfl hd_L_mark ⟨Nat.le_of_ble_eq_true rfl, Nat.le_of_ble_eq_true rfl⟩) ⟨pm_ro_blind, pm_ro_pre hP hK⟩ rfl rfl hl.1 rfl (lv_room (Nat.le_of_ble_eq_true rfl)) dL_areEditors_221 ⟨Nat.le_of_ble_eq_true rfl, Nat.le_of_ble_eq_true rfl⟩) (fun r89 h90 => ?_)
                                obtain rfl : r89 = nI 1 := h90.trans (congrArg nI hm)
                                refine lv_aload_n hx hb dL_areEditors_224 rfl (lv_at hl 2 rfl) ?_
                                refine lv_iload hx hb dL_areEditors_225 (lv_at hl 4 rfl) ?_
                                refine lv_iload hx hb dL_areEditors_227 (lv_at hl 6 rfl) ?_
                                refine vp_callSi (W.runS (As := [.ref (L 0 0), .int (nI q), .int (nI k)]) (rest := [.int (nI 1), .int (nI (pm_sa S x q k))]) ⟨hx, hb, hml, hown, hts⟩ (k_L_mark l D y L S Bs pi kn Gs sv U q k hI (by omega) (by omega)) (va_cwS 3 hts gL_areEditors_L_mark rfl rfl rfl hd_L_mark ⟨Nat.le_of_ble_eq_true rfl, Nat.le_of_ble_eq_true rfl⟩) ⟨pm_ro_blind, pm_ro_pre hP hK⟩ rfl rfl hl.1 rfl (lv_room (Nat.le_of_ble_eq_true rfl)) dL_areEditors_229 ⟨Nat.le_of_ble_eq_true rfl, Nat.le_of_ble_eq_true rfl⟩) (fun r91 h92 => ?_)
                                obtain rfl : r91 = nI 2 := h92.trans (congrArg nI hn)
                                refine lv_icmp_ne (tgt := 239) hx hb dL_areEditors_232 (by decide) (fun _ => ?_) (fun c93 => absurd c93 (by decide))
                                refine lv_iconst (v := nI 0) hx hb dL_areEditors_239 (by decide) ?_
                                refine kx_iadd hx hb dL_areEditors_240 ?_
                                refine lv_istore (lv' := [(7, .int (nI ((pm_sa S x q k) + 0))), (6, .int (nI ((pm_bo S x q k) + 1))), (9, .int (nI 1)), (0, .ref (L 0 0)), (1, .int (nI x)), (5, .int (nI q)), (8, .int (nI k))]) hx hb dL_areEditors_241 hl (by decide) rfl (fun ls hl => ?_)
                                refine kx_iinc (a := k) (lv' := [(8, .int (nI (k + 1))), (7, .int (nI ((pm_sa S x q k) + 0))), (6, .int (nI ((pm_bo S x q k) + 1))), (9, .int (nI 1)), (0, .ref (L 0 0)), (1, .int (nI x)), (5, .int (nI q))]) hx hb dL_areEditors_243 hl (k := 6) rfl (by decide) rfl (fun ls hl => ?_)
                                refine lv_goto (tgt := 160) hx hb dL_areEditors_246 (by decide) ?_
                                have q94 : (nI (pm_bo S x q (k + 1)) : Int32) = nI ((pm_bo S x q k) + 1) := (congrArg nI (by first | exact pm_num_p (decide_eq_true (by omega)) | exact pm_num_n (decide_eq_false (by omega))))
                                have q95 : (nI (pm_sa S x q (k + 1)) : Int32) = nI ((pm_sa S x q k) + 0) := (congrArg nI (by first | exact pm_num_p (decide_eq_true (by omega)) | exact pm_num_n (decide_eq_false (by omega))))
                                exact ih24 (k + 1) ls (by omega) (by omega) (by rw [q94, q95]; exact lv_sub hl [4, 5, 6, 2, 1, 0] rfl) 
                            · skip
                              rcases (show pm_mk (S 4 k) q = 0 ∨ pm_mk (S 4 k) q = 1 ∨ pm_mk (S 4 k) q = 2 by omega) with hn | hn | hn
                              · skip
                                refine lv_aload_n hx hb dL_areEditors_167 rfl (lv_at hl 0 rfl) ?_
                                refine lv_iload_n hx hb dL_areEditors_168 rfl (lv_at hl 1 rfl) ?_
                                refine lv_iload hx hb dL_areEditors_169 (lv_at hl 5 rfl) ?_
                                refine vp_callSi (W.runS (As := [.ref (L 0 0), .int (nI x), .int (nI k)]) (rest := []) ⟨hx, hb, hml, hown, hts⟩ (k_L_mark l D y L S Bs pi kn Gs sv U x k hI (by omega) (by omega)) (va_cwS 3 hts gL_areEditors_L_mark rfl rfl rfl hd_L_mark ⟨Nat.le_of_ble_eq_true rfl, Nat.le_of_ble_eq_true rfl⟩) ⟨pm_ro_blind, pm_ro_pre hP hK⟩ rfl rfl hl.1 rfl (lv_room (Nat.le_of_ble_eq_true rfl)) dL_areEditors_171 ⟨Nat.le_of_ble_eq_true rfl, Nat.le_of_ble_eq_true rfl⟩) (fun r96 h97 => ?_)
                                obtain rfl : r96 = nI 2 := h97.trans (congrArg nI hm)
                                refine lv_if_le (tgt := 192) hx hb dL_areEditors_174 (by decide) (fun c98 => absurd c98 (by decide)) (fun _ => ?_)
                                refine lv_aload_n hx hb dL_areEditors_177 rfl (lv_at hl 0 rfl) ?_
                                refine lv_iload hx hb dL_areEditors_178 (lv_at hl 2 rfl) ?_
                                refine lv_iload hx hb dL_areEditors_180 (lv_at hl 5 rfl) ?_
                                refine vp_callSi (W.runS (As := [.ref (L 0 0), .int (nI q), .int (nI k)]) (rest := []) ⟨hx, hb, hml, hown, hts⟩ (k_L_mark l D y L S Bs pi kn Gs sv U q k hI (by omega) (by omega)) (va_cwS 3 hts gL_areEditors_L_mark rfl rfl rfl hd_L_mark ⟨Nat.le_of_ble_eq_true rfl, Nat.le_of_ble_eq_true rfl⟩) ⟨pm_ro_blind, pm_ro_pre hP hK⟩ rfl rfl hl.1 rfl (lv_room (Nat.le_of_ble_eq_true rfl)) dL_areEditors_182 ⟨Nat.le_of_ble_eq_true rfl, Nat.le_of_ble_eq_true rfl⟩) (fun r99 h100 => ?_)
                                obtain rfl : r99 = nI 0 := h100.trans (congrArg nI hn)
                                refine lv_if_le (tgt := 192) hx hb dL_areEditors_185 (by decide) (fun _ => ?_) (fun c101 => (c101 (by decide)).elim)
                                refine lv_iconst (v := nI 0) hx hb dL_areEditors_192 (by decide) ?_
                                refine lv_istore (lv' := [(9, .int (nI 0)), (0, .ref (L 0 0)), (1, .int (nI x)), (5, .int (nI q)), (6, .int (nI (pm_bo S x q k))), (7, .int (nI (pm_sa S x q k))), (8, .int (nI k))]) hx hb dL_areEditors_193 hl (by decide) rfl (fun ls hl => ?_)
                                refine lv_iload hx hb dL_areEditors_195 (lv_at hl 4 rfl) ?_
                                refine lv_iload hx hb dL_areEditors_197 (lv_at hl 0 rfl) ?_
                                refine lv_if_eq (tgt := 206) hx hb dL_areEditors_199 (by decide) (fun _ => ?_) (fun c102 => (c102 (by decide)).elim)
                                refine lv_iconst (v := nI 0) hx hb dL_areEditors_206 (by decide) ?_
                                refine kx_iadd hx hb dL_areEditors_207 ?_
                                refine lv_istore (lv' := [(6, .int (nI ((pm_bo S x q k) + 0))), (9, .int (nI 0)), (0, .ref (L 0 0)), (1, .int (nI x)), (5, .int (nI q)), (7, .int (nI (pm_sa S x q k))), (8, .int (nI k))]) hx hb dL_areEditors_208 hl (by decide) rfl (fun ls hl => ?_)
                                refine lv_iload hx hb dL_areEditors_210 (lv_at hl 5 rfl) ?_
                                refine lv_iload hx hb dL_areEditors_212 (lv_at hl 1 rfl) ?_
                                refine lv_if_eq (tgt := 239) hx hb dL_areEditors_214 (by decide) (fun _ => ?_) (fun c103 => (c103 (by decide)).elim)
                                refine lv_iconst (v := nI 0) hx hb dL_areEditors_239 (by decide) ?_
                                refine kx_iadd hx hb dL_areEditors_240 ?_
                                refine lv_istore (lv' := [(7, .int (nI ((pm_sa S x q k) + 0))), (6, .int (nI ((pm_bo S x q k) + 0))), (9, .int (nI 0)), (0, .ref (L 0 0)), (1, .int (nI x)), (5, .int (nI q)), (8, .int (nI k))]) hx hb dL_areEditors_241 hl (by decide) rfl (fun ls hl => ?_)
                                refine kx_iinc (a := k) (lv' := [(8, .int (nI (k + 1))), (7, .int (nI ((pm_sa S x q k) + 0))), (6, .int (nI ((pm_bo S x q k) + 0))), (9, .int (nI 0)), (0, .ref (L 0 0)), (1, .int (nI x)), (5, .int (nI q))]) hx hb dL_areEditors_243 hl (k := 6) rfl (by decide) rfl (fun ls hl => ?_)
                                refine lv_goto (tgt := 160) hx hb dL_areEditors_246 (by decide) ?_
                                have q104 : (nI (pm_bo S x q (k + 1)) : Int32) = nI ((pm_bo S x q k) + 0) := (congrArg nI (by first | exact pm_num_p (decide_eq_true (by omega)) | exact pm_num_n (decide_eq_false (by omega))))
                                have q105 : (nI (pm_sa S x q (k + 1)) : Int32) = nI ((pm_sa S x q k) + 0) := (congrArg nI (by first | exact pm_num_p (decide_eq_true (by omega)) | exact pm_num_n (decide_eq_false (by omega))))
                                exact ih24 (k + 1) ls (by omega) (by omega) (by rw [q104, q105]; exact lv_sub hl [4, 5, 6, 2, 1, 0] rfl) 
                              · skip
                                refine lv_aload_n hx hb dL_areEditors_167 rfl (lv_at hl 0 rfl) ?_
                                refine lv_iload_n hx hb dL_areEditors_168 rfl (lv_at hl 1 rfl) ?_
                                refine lv_iload hx hb dL_areEditors_169 (lv_at hl 5 rfl) ?_
                                refine vp_callSi (W.runS (As := [.ref (L 0 0), .int (nI x), .int (nI k)]) (rest := []) ⟨hx, hb, hml, hown, hts⟩ (k_L_mark l D y L S Bs pi kn Gs sv U x k hI (by omega) (by omega)) (va_cwS 3 hts gL_areEditors_L_mark rfl rfl rfl hd_L_mark ⟨Nat.le_of_ble_eq_true rfl, Nat.le_of_ble_eq_true rfl⟩) ⟨pm_ro_blind, pm_ro_pre hP hK⟩ rfl rfl hl.1 rfl (lv_room (Nat.le_of_ble_eq_true rfl)) dL_areEditors_171 ⟨Nat.le_of_ble_eq_true rfl, Nat.le_of_ble_eq_true rfl⟩) (fun r106 h107 => ?_)
                                obtain rfl : r106 = nI 2 := h107.trans (congrArg nI hm)
                                refine lv_if_le (tgt := 192) hx hb dL_areEditors_174 (by decide) (fun c108 => absurd c108 (by decide)) (fun _ => ?_)
                                refine lv_aload_n hx hb dL_areEditors_177 rfl (lv_at hl 0 rfl) ?_
                                refine lv_iload hx hb dL_areEditors_178 (lv_at hl 2 rfl) ?_
                                refine lv_iload hx hb dL_areEditors_180 (lv_at hl 5 rfl) ?_
                                refine vp_callSi (W.runS (As := [.ref (L 0 0), .int (nI q), .int (nI k)]) (rest := []) ⟨hx, hb, hml, hown, hts⟩ (k_L_mark l D y L S Bs pi kn Gs sv U q k hI (by omega) (by omega)) (va_cwS 3 hts gL_areEditors_L_mark rfl rfl rfl hd_L_mark ⟨Nat.le_of_ble_eq_true rfl, Nat.le_of_ble_eq_true rfl⟩) ⟨pm_ro_blind, pm_ro_pre hP hK⟩ rfl rfl hl.1 rfl (lv_room (Nat.le_of_ble_eq_true rfl)) dL_areEditors_182 ⟨Nat.le_of_ble_eq_true rfl, Nat.le_of_ble_eq_true rfl⟩) (fun r109 h110 => ?_)
                                obtain rfl : r109 = nI 1 := h110.trans (congrArg nI hn)
                                refine lv_if_le (tgt := 192) hx hb dL_areEditors_185 (by decide) (fun c111 => absurd c111 (by decide)) (fun _ => ?_)
                                refine lv_iconst (v := nI 1) hx hb dL_areEditors_188 (by decide) ?_
                                refine lv_goto (tgt := 193) hx hb dL_areEditors_189 (by decide) ?_
                                refine lv_istore (lv' := [(9, .int (nI 1)), (0, .ref (L 0 0)), (1, .int (nI x)), (5, .int (nI q)), (6, .int (nI (pm_bo S x q k))), (7, .int (nI (pm_sa S x q k))), (8, .int (nI k))]) hx hb dL_areEditors_193 hl (by decide) rfl (fun ls hl => ?_)
                                refine lv_iload hx hb dL_areEditors_195 (lv_at hl 4 rfl) ?_
                                refine lv_iload hx hb dL_areEditors_197 (lv_at hl 0 rfl) ?_
                                refine lv_if_eq (tgt := 206) hx hb dL_areEditors_199 (by decide) (fun c112 => absurd c112 (by decide)) (fun _ => ?_)
                                refine lv_iconst (v := nI 1) hx hb dL_areEditors_202 (by decide) ?_
                                refine lv_goto (tgt := 207) hx hb dL_areEditors_203 (by decide) ?_
                                refine kx_iadd hx hb dL_areEditors_207 ?_
                                refine lv_istore (lv' := [(6, .int (nI ((pm_bo S x q k) + 1))), (9, .int (nI 1)), (0, .ref (L 0 0)), (1, .int (nI x)), (5, .int (nI q)), (7, .int (nI (pm_sa S x q k))), (8, .int (nI k))]) hx hb dL_areEditors_208 hl (by decide) rfl (fun ls hl => ?_)
                                refine lv_iload hx hb dL_areEditors_210 (lv_at hl 5 rfl) ?_
                                refine lv_iload hx hb dL_areEditors_212 (lv_at hl 1 rfl) ?_
                                refine lv_if_eq (tgt := 239) hx hb dL_areEditors_214 (by decide) (fun c113 => absurd c113 (by decide)) (fun _ => ?_)
                                refine lv_aload_n hx hb dL_areEditors_217 rfl (lv_at hl 2 rfl) ?_
                                refine lv_iload_n hx hb dL_areEditors_218 rfl (lv_at hl 3 rfl) ?_
                                refine lv_iload hx hb dL_areEditors_219 (lv_at hl 6 rfl) ?_
                                refine vp_callSi (W.runS (As := [.ref (L 0 0), .int (nI x), .int (nI k)]) (rest := [.int (nI (pm_sa S x q k))]) ⟨hx, hb, hml, hown, hts⟩ (k_L_mark l D y L S Bs pi kn Gs sv U x k hI (by omega) (by omega)) (va_cwS 3 hts gL_areEditors_L_mark rfl rfl rfl hd_L_mark ⟨Nat.le_of_ble_eq_true rfl, Nat.le_of_ble_eq_true rfl⟩) ⟨pm_ro_blind, pm_ro_pre hP hK⟩ rfl rfl hl.1 rfl (lv_room (Nat.le_of_ble_eq_true rfl)) dL_areEditors_221 ⟨Nat.le_of_ble_eq_true rfl, Nat.le_of_ble_eq_true rfl⟩) (fun r114 h115 => ?_)
                                obtain rfl : r114 = nI 2 := h115.trans (congrArg nI hm)
                                refine lv_aload_n hx hb dL_areEditors_224 rfl (lv_at hl 2 rfl) ?_
                                refine lv_iload hx hb dL_areEditors_225 (lv_at hl 4 rfl) ?_
                                refine lv_iload hx hb dL_areEditors_227 (lv_at hl 6 rfl) ?_
                                refine vp_callSi (W.runS (As := [.ref (L 0 0), .int (nI q), .int (nI k)]) (rest := [.int (nI 2), .int (nI (pm_sa S x q k))]) ⟨hx, hb, hml, hown, hts⟩ (k_L_mark l D y L S Bs pi kn Gs sv U q k hI (by omega) (by omega)) (va_cwS 3 hts gL_areEditors_L_mark rfl rfl rfl hd_L_mark ⟨Nat.le_of_ble_eq_true rfl, Nat.le_of_ble_eq_true rfl⟩) ⟨pm_ro_blind, pm_ro_pre hP hK⟩ rfl rfl hl.1 rfl (lv_room (Nat.le_of_ble_eq_true rfl)) dL_areEditors_229 ⟨Nat.le_of_ble_eq_true rfl, Nat.le_of_ble_eq_true rfl⟩) (fun r116 h117 => ?_)
                                obtain rfl : r116 = nI 1 := h117.trans (congrArg nI hn)
                                refine lv_icmp_ne (tgt := 239) hx hb dL_areEditors_232 (by decide) (fun _ => ?_) (fun c118 => absurd c118 (by decide))
                                refine lv_iconst (v := nI 0) hx hb dL_areEditors_239 (by decide) ?_
                                refine kx_iadd hx hb dL_areEditors_240 ?_
                                refine lv_istore (lv' := [(7, .int (nI ((pm_sa S x q k) + 0))), (6, .int (nI ((pm_bo S x q k) + 1))), (9, .int (nI 1)), (0, .ref (L 0 0)), (1, .int (nI x)), (5, .int (nI q)), (8, .int (nI k))]) hx hb dL_areEditors_241 hl (by decide) rfl (fun ls hl => ?_)
                                refine kx_iinc (a := k) (lv' := [(8, .int (nI (k + 1))), (7, .int (nI ((pm_sa S x q k) + 0))), (6, .int (nI ((pm_bo S x q k) + 1))), (9, .int (nI 1)), (0, .ref (L 0 0)), (1, .int (nI x)), (5, .int (nI q))]) hx hb dL_areEditors_243 hl (k := 6) rfl (by decide) rfl (fun ls hl => ?_)
                                refine lv_goto (tgt := 160) hx hb dL_areEditors_246 (by decide) ?_
                                have q119 : (nI (pm_bo S x q (k + 1)) : Int32) = nI ((pm_bo S x q k) + 1) := (congrArg nI (by first | exact pm_num_p (decide_eq_true (by omega)) | exact pm_num_n (decide_eq_false (by omega))))
                                have q120 : (nI (pm_sa S x q (k + 1)) : Int32) = nI ((pm_sa S x q k) + 0) := (congrArg nI (by first | exact pm_num_p (decide_eq_true (by omega)) | exact pm_num_n (decide_eq_false (by omega))))
                                exact ih24 (k + 1) ls (by omega) (by omega) (by rw [q119, q120]; exact lv_sub hl [4, 5, 6, 2, 1, 0] rfl) 
                              · skip
                                refine lv_aload_n hx hb dL_areEditors_167 rfl (lv_at hl 0 rfl) ?_
                                refine lv_iload_n hx hb dL_areEditors_168 rfl (lv_at hl 1 rfl) ?_
                                refine lv_iload hx hb dL_areEditors_169 (lv_at hl 5 rfl) ?_
                                refine vp_callSi (W.runS (As := [.ref (L 0 0), .int (nI x), .int (nI k)]) (rest := []) ⟨hx, hb, hml, hown, hts⟩ (k_L_mark l D y L S Bs pi kn Gs sv U x k hI (by omega) (by omega)) (va_cwS 3 hts gL_areEditors_L_mark rfl rfl rfl hd_L_mark ⟨Nat.le_of_ble_eq_true rfl, Nat.le_of_ble_eq_true rfl⟩) ⟨pm_ro_blind, pm_ro_pre hP hK⟩ rfl rfl hl.1 rfl (lv_room (Nat.le_of_ble_eq_true rfl)) dL_areEditors_171 ⟨Nat.le_of_ble_eq_true rfl, Nat.le_of_ble_eq_true rfl⟩) (fun r121 h122 => ?_)
                                obtain rfl : r121 = nI 2 := h122.trans (congrArg nI hm)
                                refine lv_if_le (tgt := 192) hx hb dL_areEditors_174 (by decide) (fun c123 => absurd c123 (by decide)) (fun _ => ?_)
                                refine lv_aload_n hx hb dL_areEditors_177 rfl (lv_at hl 0 rfl) ?_
                                refine lv_iload hx hb dL_areEditors_178 (lv_at hl 2 rfl) ?_
                                refine lv_iload hx hb dL_areEditors_180 (lv_at hl 5 rfl) ?_
                                refine vp_callSi (W.runS (As := [.ref (L 0 0), .int (nI q), .int (nI k)]) (rest := []) ⟨hx, hb, hml, hown, hts⟩ (k_L_mark l D y L S Bs pi kn Gs sv U q k hI (by omega) (by omega)) (va_cwS 3 hts gL_areEditors_L_mark rfl rfl rfl hd_L_mark ⟨Nat.le_of_ble_eq_true rfl, Nat.le_of_ble_eq_true rfl⟩) ⟨pm_ro_blind, pm_ro_pre hP hK⟩ rfl rfl hl.1 rfl (lv_room (Nat.le_of_ble_eq_true rfl)) dL_areEditors_182 ⟨Nat.le_of_ble_eq_true rfl, Nat.le_of_ble_eq_true rfl⟩) (fun r124 h125 => ?_)
                                obtain rfl : r124 = nI 2 := h125.trans (congrArg nI hn)
                                refine lv_if_le (tgt := 192) hx hb dL_areEditors_185 (by decide) (fun c126 => absurd c126 (by decide)) (fun _ => ?_)
                                refine lv_iconst (v := nI 1) hx hb dL_areEditors_188 (by decide) ?_
                                refine lv_goto (tgt := 193) hx hb dL_areEditors_189 (by decide) ?_
                                refine lv_istore (lv' := [(9, .int (nI 1)), (0, .ref (L 0 0)), (1, .int (nI x)), (5, .int (nI q)), (6, .int (nI (pm_bo S x q k))), (7, .int (nI (pm_sa S x q k))), (8, .int (nI k))]) hx hb dL_areEditors_193 hl (by decide) rfl (fun ls hl => ?_)
                                refine lv_iload hx hb dL_areEditors_195 (lv_at hl 4 rfl) ?_
                                refine lv_iload hx hb dL_areEditors_197 (lv_at hl 0 rfl) ?_
                                refine lv_if_eq (tgt := 206) hx hb dL_areEditors_199 (by decide) (fun c127 => absurd c127 (by decide)) (fun _ => ?_)
                                refine lv_iconst (v := nI 1) hx hb dL_areEditors_202 (by decide) ?_
                                refine lv_goto (tgt := 207) hx hb dL_areEditors_203 (by decide) ?_
                                refine kx_iadd hx hb dL_areEditors_207 ?_
                                refine lv_istore (lv' := [(6, .int (nI ((pm_bo S x q k) + 1))), (9, .int (nI 1)), (0, .ref (L 0 0)), (1, .int (nI x)), (5, .int (nI q)), (7, .int (nI (pm_sa S x q k))), (8, .int (nI k))]) hx hb dL_areEditors_208 hl (by decide) rfl (fun ls hl => ?_)
                                refine lv_iload hx hb dL_areEditors_210 (lv_at hl 5 rfl) ?_
                                refine lv_iload hx hb dL_areEditors_212 (lv_at hl 1 rfl) ?_
                                refine lv_if_eq (tgt := 239) hx hb dL_areEditors_214 (by decide) (fun c128 => absurd c128 (by decide)) (fun _ => ?_)
                                refine lv_aload_n hx hb dL_areEditors_217 rfl (lv_at hl 2 rfl) ?_
                                refine lv_iload_n hx hb dL_areEditors_218 rfl (lv_at hl 3 rfl) ?_
                                refine lv_iload hx hb dL_areEditors_219 (lv_at hl 6 rfl) ?_
                                refine vp_callSi (W.runS (As := [.ref (L 0 0), .int (nI x), .int (nI k)]) (rest := [.int (nI (pm_sa S x q k))]) ⟨hx, hb, hml, hown, hts⟩ (k_L_mark l D y L S Bs pi kn Gs sv U x k hI (by omega) (by omega)) (va_cwS 3 hts gL_areEditors_L_mark rfl rfl rfl hd_L_mark ⟨Nat.le_of_ble_eq_true rfl, Nat.le_of_ble_eq_true rfl⟩) ⟨pm_ro_blind, pm_ro_pre hP hK⟩ rfl rfl hl.1 rfl (lv_room (Nat.le_of_ble_eq_true rfl)) dL_areEditors_221 ⟨Nat.le_of_ble_eq_true rfl, Nat.le_of_ble_eq_true rfl⟩) (fun r129 h130 => ?_)
                                obtain rfl : r129 = nI 2 := h130.trans (congrArg nI hm)
                                refine lv_aload_n hx hb dL_areEditors_224 rfl (lv_at hl 2 rfl) ?_
                                refine lv_iload hx hb dL_areEditors_225 (lv_at hl 4 rfl) ?_
                                refine lv_iload hx hb dL_areEditors_227 (lv_at hl 6 rfl) ?_
                                refine vp_callSi (W.runS (As := [.ref (L 0 0), .int (nI q), .int (nI k)]) (rest := [.int (nI 2), .int (nI (pm_sa S x q k))]) ⟨hx, hb, hml, hown, hts⟩ (k_L_mark l D y L S Bs pi kn Gs sv U q k hI (by omega) (by omega)) (va_cwS 3 hts gL_areEditors_L_mark rfl rfl rfl hd_L_mark ⟨Nat.le_of_ble_eq_true rfl, Nat.le_of_ble_eq_true rfl⟩) ⟨pm_ro_blind, pm_ro_pre hP hK⟩ rfl rfl hl.1 rfl (lv_room (Nat.le_of_ble_eq_true rfl)) dL_areEditors_229 ⟨Nat.le_of_ble_eq_true rfl, Nat.le_of_ble_eq_true rfl⟩) (fun r131 h132 => ?_)
                                obtain rfl : r131 = nI 2 := h132.trans (congrArg nI hn)
                                refine lv_icmp_ne (tgt := 239) hx hb dL_areEditors_232 (by decide) (fun c133 => (c133 (by decide)).elim) (fun _ => ?_)
                                refine lv_iconst (v := nI 1) hx hb dL_areEditors_235 (by decide) ?_
                                refine lv_goto (tgt := 240) hx hb dL_areEditors_236 (by decide) ?_
                                refine kx_iadd hx hb dL_areEditors_240 ?_
                                refine lv_istore (lv' := [(7, .int (nI ((pm_sa S x q k) + 1))), (6, .int (nI ((pm_bo S x q k) + 1))), (9, .int (nI 1)), (0, .ref (L 0 0)), (1, .int (nI x)), (5, .int (nI q)), (8, .int (nI k))]) hx hb dL_areEditors_241 hl (by decide) rfl (fun ls hl => ?_)
                                refine kx_iinc (a := k) (lv' := [(8, .int (nI (k + 1))), (7, .int (nI ((pm_sa S x q k) + 1))), (6, .int (nI ((pm_bo S x q k) + 1))), (9, .int (nI 1)), (0, .ref (L 0 0)), (1, .int (nI x)), (5, .int (nI q))]) hx hb dL_areEditors_243 hl (k := 6) rfl (by decide) rfl (fun ls hl => ?_)
                                refine lv_goto (tgt := 160) hx hb dL_areEditors_246 (by decide) ?_
                                have q134 : (nI (pm_bo S x q (k + 1)) : Int32) = nI ((pm_bo S x q k) + 1) := (congrArg nI (by first | exact pm_num_p (decide_eq_true (by omega)) | exact pm_num_n (decide_eq_false (by omega))))
                                have q135 : (nI (pm_sa S x q (k + 1)) : Int32) = nI ((pm_sa S x q k) + 1) := (congrArg nI (by first | exact pm_num_p (decide_eq_true (by omega)) | exact pm_num_n (decide_eq_false (by omega))))
                                exact ih24 (k + 1) ls (by omega) (by omega) (by rw [q134, q135]; exact lv_sub hl [4, 5, 6, 2, 1, 0] rfl) 
                      exact LOOP160 (30 + 1) 0 ls (by omega) (by omega) (lv_sub hl [3, 4, 5, 2, 1, 0] rfl) 
                exact LOOP145 (3 + 1) 0 ls (by omega) (by omega) (lv_sub hl [2, 3, 0] rfl) 
              · skip
                refine lv_aload_n hx hb dL_areEditors_75 rfl (lv_at hl 0 rfl) ?_
                refine lv_bipush (v := nI 12) hx hb dL_areEditors_76 (by decide) ?_
                refine vp_callSi (W.runV (As := [.int (nI 12)]) (rest := []) ⟨hx, hb, hml, hown, hts⟩ (k_X3_count l D y L S Bs pi kn Gs sv U Bs Gs (nI 12) hI.1) (cwV 1 hts gL_areEditors_X3_count rfl rfl rfl hd_X3_count ⟨Nat.le_of_ble_eq_true rfl, Nat.le_of_ble_eq_true rfl⟩) ⟨pm_ron_blind, va_recv hK hP (ci := 3) (q0 := 0) rfl rfl, pm_ron_pre hP hK hN⟩ rfl rfl hl.1 rfl (lv_room (Nat.le_of_ble_eq_true rfl)) dL_areEditors_78 ⟨Nat.le_of_ble_eq_true rfl, Nat.le_of_ble_eq_true rfl⟩) (fun r136 h137 => ?_)
                obtain rfl : r136 = nI (S 9 1) := h137.trans (pq_co12)
                have := hI.1.set
                refine lv_iload_n hx hb dL_areEditors_81 rfl (lv_at hl 3 rfl) ?_
                refine kx_isub hx hb (by omega) dL_areEditors_82 ?_
                refine lv_goto (tgt := 87) hx hb dL_areEditors_83 (by decide) ?_
                refine lv_istore (lv' := [(4, .int (nI ((S 9 1) - (pm_cnt S x 2 30)))), (0, .ref (L 0 0)), (1, .int (nI x)), (2, .int (nI (pm_cnt S x 1 30))), (3, .int (nI (pm_cnt S x 2 30)))]) hx hb dL_areEditors_87 hl (by decide) rfl (fun ls hl => ?_)
                refine lv_aload_n hx hb dL_areEditors_89 rfl (lv_at hl 1 rfl) ?_
                refine lv_iload_n hx hb dL_areEditors_90 rfl (lv_at hl 2 rfl) ?_
                refine lv_iconst (v := nI 0) hx hb dL_areEditors_91 (by decide) ?_
                refine vp_callSi (W.runV (As := [.int (nI x), .int (nI 0)]) (rest := []) ⟨hx, hb, hml, hown, hts⟩ (k_X3_editor l D y L S Bs pi kn Gs sv U Bs Gs (nI x) (nI 0) hI.1) (cwV 2 hts gL_areEditors_X3_editor rfl rfl rfl hd_X3_editor ⟨Nat.le_of_ble_eq_true rfl, Nat.le_of_ble_eq_true rfl⟩) ⟨pm_ro_blind, va_recv hK hP (ci := 3) (q0 := 0) rfl rfl, pm_ro_pre hP hK⟩ rfl rfl hl.1 rfl (lv_room (Nat.le_of_ble_eq_true rfl)) dL_areEditors_92 ⟨Nat.le_of_ble_eq_true rfl, Nat.le_of_ble_eq_true rfl⟩) (fun r138 h139 => ?_)
                obtain rfl : r138 = nI (S 5 x) := h139.trans (pq_ed0 (by omega))
                have := hI.1.pts x (by omega)
                refine kx_if_lt (tgt := 140) hx hb (by omega) dL_areEditors_95 (by decide) ?_
                refine lv_aload_n hx hb dL_areEditors_98 rfl (lv_at hl 1 rfl) ?_
                refine lv_iload_n hx hb dL_areEditors_99 rfl (lv_at hl 2 rfl) ?_
                refine lv_iconst (v := nI 0) hx hb dL_areEditors_100 (by decide) ?_
                refine vp_callSi (W.runV (As := [.int (nI x), .int (nI 0)]) (rest := []) ⟨hx, hb, hml, hown, hts⟩ (k_X3_editor l D y L S Bs pi kn Gs sv U Bs Gs (nI x) (nI 0) hI.1) (cwV 2 hts gL_areEditors_X3_editor rfl rfl rfl hd_X3_editor ⟨Nat.le_of_ble_eq_true rfl, Nat.le_of_ble_eq_true rfl⟩) ⟨pm_ro_blind, va_recv hK hP (ci := 3) (q0 := 0) rfl rfl, pm_ro_pre hP hK⟩ rfl rfl hl.1 rfl (lv_room (Nat.le_of_ble_eq_true rfl)) dL_areEditors_101 ⟨Nat.le_of_ble_eq_true rfl, Nat.le_of_ble_eq_true rfl⟩) (fun r140 h141 => ?_)
                obtain rfl : r140 = nI (S 5 x) := h141.trans (pq_ed0 (by omega))
                have := hI.1.pts x (by omega)
                refine lv_bipush (v := nI 20) hx hb dL_areEditors_104 (by decide) ?_
                refine kx_icmp_gt (tgt := 140) hx hb (by omega) (by decide) dL_areEditors_106 (by decide) (fun c142 => by exfalso; omega) (fun c142 => ?_)
                refine lv_aload_n hx hb dL_areEditors_109 rfl (lv_at hl 1 rfl) ?_
                refine lv_iload_n hx hb dL_areEditors_110 rfl (lv_at hl 2 rfl) ?_
                refine lv_iconst (v := nI 1) hx hb dL_areEditors_111 (by decide) ?_
                refine vp_callSi (W.runV (As := [.int (nI x), .int (nI 1)]) (rest := []) ⟨hx, hb, hml, hown, hts⟩ (k_X3_editor l D y L S Bs pi kn Gs sv U Bs Gs (nI x) (nI 1) hI.1) (cwV 2 hts gL_areEditors_X3_editor rfl rfl rfl hd_X3_editor ⟨Nat.le_of_ble_eq_true rfl, Nat.le_of_ble_eq_true rfl⟩) ⟨pm_ro_blind, va_recv hK hP (ci := 3) (q0 := 0) rfl rfl, pm_ro_pre hP hK⟩ rfl rfl hl.1 rfl (lv_room (Nat.le_of_ble_eq_true rfl)) dL_areEditors_112 ⟨Nat.le_of_ble_eq_true rfl, Nat.le_of_ble_eq_true rfl⟩) (fun r143 h144 => ?_)
                obtain rfl : r143 = nI (pm_cnt S x 1 30) := h144.trans (pq_ed1 (by omega))
                have := pm_cnt_le S x 1 30
                refine lv_iload_n hx hb dL_areEditors_115 rfl (lv_at hl 3 rfl) ?_
                refine kx_icmp_ne (tgt := 140) hx hb (by omega) (by omega) dL_areEditors_116 (by decide) (fun c145 => by exfalso; omega) (fun c145 => ?_)
                refine lv_aload_n hx hb dL_areEditors_119 rfl (lv_at hl 1 rfl) ?_
                refine lv_iload_n hx hb dL_areEditors_120 rfl (lv_at hl 2 rfl) ?_
                refine lv_iconst (v := nI 2) hx hb dL_areEditors_121 (by decide) ?_
                refine vp_callSi (W.runV (As := [.int (nI x), .int (nI 2)]) (rest := []) ⟨hx, hb, hml, hown, hts⟩ (k_X3_editor l D y L S Bs pi kn Gs sv U Bs Gs (nI x) (nI 2) hI.1) (cwV 2 hts gL_areEditors_X3_editor rfl rfl rfl hd_X3_editor ⟨Nat.le_of_ble_eq_true rfl, Nat.le_of_ble_eq_true rfl⟩) ⟨pm_ro_blind, va_recv hK hP (ci := 3) (q0 := 0) rfl rfl, pm_ro_pre hP hK⟩ rfl rfl hl.1 rfl (lv_room (Nat.le_of_ble_eq_true rfl)) dL_areEditors_122 ⟨Nat.le_of_ble_eq_true rfl, Nat.le_of_ble_eq_true rfl⟩) (fun r146 h147 => ?_)
                obtain rfl : r146 = nI (pm_cnt S x 2 30) := h147.trans (pq_ed2 (by omega))
                have := pm_cnt_le S x 2 30
                refine lv_iload_n hx hb dL_areEditors_125 rfl (lv_at hl 4 rfl) ?_
                refine kx_icmp_ne (tgt := 140) hx hb (by omega) (by omega) dL_areEditors_126 (by decide) (fun c148 => by exfalso; omega) (fun c148 => ?_)
                refine lv_aload_n hx hb dL_areEditors_129 rfl (lv_at hl 1 rfl) ?_
                refine lv_iload_n hx hb dL_areEditors_130 rfl (lv_at hl 2 rfl) ?_
                refine lv_iconst (v := nI 3) hx hb dL_areEditors_131 (by decide) ?_
                refine vp_callSi (W.runV (As := [.int (nI x), .int (nI 3)]) (rest := []) ⟨hx, hb, hml, hown, hts⟩ (k_X3_editor l D y L S Bs pi kn Gs sv U Bs Gs (nI x) (nI 3) hI.1) (cwV 2 hts gL_areEditors_X3_editor rfl rfl rfl hd_X3_editor ⟨Nat.le_of_ble_eq_true rfl, Nat.le_of_ble_eq_true rfl⟩) ⟨pm_ro_blind, va_recv hK hP (ci := 3) (q0 := 0) rfl rfl, pm_ro_pre hP hK⟩ rfl rfl hl.1 rfl (lv_room (Nat.le_of_ble_eq_true rfl)) dL_areEditors_132 ⟨Nat.le_of_ble_eq_true rfl, Nat.le_of_ble_eq_true rfl⟩) (fun r149 h150 => ?_)
                obtain rfl : r149 = nI (S 9 1 - pm_cnt S x 2 30) := h150.trans (pq_ed3 (by omega))
                have := hI.1.set
                refine lv_iload hx hb dL_areEditors_135 (lv_at hl 0 rfl) ?_
                refine kx_icmp_eq (tgt := 142) hx hb (by omega) (by omega) dL_areEditors_137 (by decide) (fun c151 => ?_) (fun c151 => by exfalso; omega)
                refine lv_iconst (v := nI 0) hx hb dL_areEditors_142 (by decide) ?_
                refine lv_istore (lv' := [(5, .int (nI 0)), (4, .int (nI ((S 9 1) - (pm_cnt S x 2 30)))), (0, .ref (L 0 0)), (1, .int (nI x)), (2, .int (nI (pm_cnt S x 1 30))), (3, .int (nI (pm_cnt S x 2 30)))]) hx hb dL_areEditors_143 hl (by decide) rfl (fun ls hl => ?_)
                have LOOP145 : ∀ (n q : Nat) (ls : Array Slot), q ≤ 3 → 3 - q < n → lv_has ls 10 [(0, .ref (L 0 0)), (1, .int (nI x)), (5, .int (nI q))] → W p l e (headSpec wsL_areEditors ({ frames := 5, cells := 0, slots := 0, locals := 112 } : Room)).room s m ([.ref (L 0 0)] : List Value).toArray below meth c s.heap [] 0 0 (MQ below (vp_Si (fun r : Int32 => r = nI 1)) ([.ref (L 0 0)] : List Value).toArray s 0 0 (fun _ => False)) (F0 m 145 ls []) := by
                  intro n
                  induction n with
                  | zero => intro q _ hi hn; omega
                  | succ n ih152 =>
                    intro q ls hi_q hn_q hl 
                    refine lv_iload hx hb dL_areEditors_145 (lv_at hl 2 rfl) ?_
                    refine lv_iconst (v := nI 3) hx hb dL_areEditors_147 (by decide) ?_
                    refine kx_icmp_ge (tgt := 285) hx hb (by omega) (by decide) dL_areEditors_148 (by decide) (fun c153 => ?_) (fun c153 => ?_)
                    · skip
                      refine kx_iinc (a := x) (lv' := [(1, .int (nI (x + 1))), (0, .ref (L 0 0)), (5, .int (nI q))]) hx hb dL_areEditors_285 hl (k := 1) rfl (by decide) rfl (fun ls hl => ?_)
                      refine lv_goto (tgt := 2) hx hb dL_areEditors_288 (by decide) ?_
                      exact ih1 (x + 1) ls (by omega) (by omega) (by exact lv_sub hl [1, 0] rfl) 
                    · skip
                      refine lv_iconst (v := nI 0) hx hb dL_areEditors_151 (by decide) ?_
                      refine lv_istore (lv' := [(6, .int (nI 0)), (0, .ref (L 0 0)), (1, .int (nI x)), (5, .int (nI q))]) hx hb dL_areEditors_152 hl (by decide) rfl (fun ls hl => ?_)
                      refine lv_iconst (v := nI 0) hx hb dL_areEditors_154 (by decide) ?_
                      refine lv_istore (lv' := [(7, .int (nI 0)), (6, .int (nI 0)), (0, .ref (L 0 0)), (1, .int (nI x)), (5, .int (nI q))]) hx hb dL_areEditors_155 hl (by decide) rfl (fun ls hl => ?_)
                      refine lv_iconst (v := nI 0) hx hb dL_areEditors_157 (by decide) ?_
                      refine lv_istore (lv' := [(8, .int (nI 0)), (7, .int (nI 0)), (6, .int (nI 0)), (0, .ref (L 0 0)), (1, .int (nI x)), (5, .int (nI q))]) hx hb dL_areEditors_158 hl (by decide) rfl (fun ls hl => ?_)
                      have LOOP160 : ∀ (n k : Nat) (ls : Array Slot), k ≤ 30 → 30 - k < n → lv_has ls 10 [(0, .ref (L 0 0)), (1, .int (nI x)), (5, .int (nI q)), (6, .int (nI (pm_bo S x q k))), (7, .int (nI (pm_sa S x q k))), (8, .int (nI k))] → W p l e (headSpec wsL_areEditors ({ frames := 5, cells := 0, slots := 0, locals := 112 } : Room)).room s m ([.ref (L 0 0)] : List Value).toArray below meth c s.heap [] 0 0 (MQ below (vp_Si (fun r : Int32 => r = nI 1)) ([.ref (L 0 0)] : List Value).toArray s 0 0 (fun _ => False)) (F0 m 160 ls []) := by
                        intro n
                        induction n with
                        | zero => intro k _ hi hn; omega
                        | succ n ih154 =>
                          intro k ls hi_k hn_k hl 
                          refine lv_iload hx hb dL_areEditors_160 (lv_at hl 5 rfl) ?_
                          refine lv_bipush (v := nI 30) hx hb dL_areEditors_162 (by decide) ?_
                          refine kx_icmp_ge (tgt := 249) hx hb (by omega) (by decide) dL_areEditors_164 (by decide) (fun c155 => ?_) (fun c155 => ?_)
                          · skip
                            obtain rfl : k = 30 := by omega
                            have hb1 := pq_bo_le S x q 30
                            have hb2 := pq_sa_le S x q 30
                            refine lv_aload_n hx hb dL_areEditors_249 rfl (lv_at hl 0 rfl) ?_
                            refine lv_iload_n hx hb dL_areEditors_250 rfl (lv_at hl 1 rfl) ?_
                            refine lv_iload hx hb dL_areEditors_251 (lv_at hl 2 rfl) ?_
                            refine vp_callSi (W.runV (As := [.int (nI x), .int (nI q)]) (rest := []) ⟨hx, hb, hml, hown, hts⟩ (k_X3_agree l D y L S Bs pi kn Gs sv U Bs Gs (nI x) (nI q) hI.1) (cwV 2 hts gL_areEditors_X3_agree rfl rfl rfl hd_X3_agree ⟨Nat.le_of_ble_eq_true rfl, Nat.le_of_ble_eq_true rfl⟩) ⟨pm_ro_blind, va_recv hK hP (ci := 3) (q0 := 0) rfl rfl, pm_ro_pre hP hK⟩ rfl rfl hl.1 rfl (lv_room (Nat.le_of_ble_eq_true rfl)) dL_areEditors_253 ⟨Nat.le_of_ble_eq_true rfl, Nat.le_of_ble_eq_true rfl⟩) (fun r156 h157 => ?_)
                            obtain rfl : r156 = nI (pq_ag S x q) := h157.trans (pq_agr (by omega) (by omega))
                            have := pq_ag_le S x q
                            refine lv_iload hx hb dL_areEditors_256 (lv_at hl 3 rfl) ?_
                            refine kx_if_ne (tgt := 266) hx hb (by omega) dL_areEditors_258 (by decide) (fun c158 => ?_) (fun c158 => ?_)
                            · skip
                              refine lv_bipush (v := nI 100) hx hb dL_areEditors_266 (by decide) ?_
                              refine lv_iload hx hb dL_areEditors_268 (lv_at hl 4 rfl) ?_
                              refine kx_imul hx hb dL_areEditors_270 ?_
                              refine lv_iload hx hb dL_areEditors_271 (lv_at hl 3 rfl) ?_
                              refine kx_idiv hx hb (by omega) (by omega) (by omega) dL_areEditors_273 ?_
                              refine lv_topi (fun x159 e160 => ?_)
                              obtain rfl : x159 = nI (pq_ag S x q) := e160.trans (pq_ag_2 (by omega))
                              refine kx_icmp_eq (tgt := 279) hx hb (by omega) (by omega) dL_areEditors_274 (by decide) (fun c161 => ?_) (fun c161 => by exfalso; omega)
                              refine kx_iinc (a := q) (lv' := [(5, .int (nI (q + 1))), (0, .ref (L 0 0)), (1, .int (nI x)), (6, .int (nI (pm_bo S x q 30))), (7, .int (nI (pm_sa S x q 30))), (8, .int (nI 30))]) hx hb dL_areEditors_279 hl (k := 2) rfl (by decide) rfl (fun ls hl => ?_)
                              refine lv_goto (tgt := 145) hx hb dL_areEditors_282 (by decide) ?_
                              exact ih152 (q + 1) ls (by omega) (by omega) (by exact lv_sub hl [1, 2, 0] rfl) 
                            · skip
                              refine lv_bipush (v := nI 100) hx hb dL_areEditors_261 (by decide) ?_
                              refine lv_topi (fun x162 e163 => ?_)
                              obtain rfl : x162 = nI (pq_ag S x q) := e163.trans (pq_ag_1 (by omega))
                              refine lv_goto (tgt := 274) hx hb dL_areEditors_263 (by decide) ?_
                              refine kx_icmp_eq (tgt := 279) hx hb (by omega) (by omega) dL_areEditors_274 (by decide) (fun c164 => ?_) (fun c164 => by exfalso; omega)
                              refine kx_iinc (a := q) (lv' := [(5, .int (nI (q + 1))), (0, .ref (L 0 0)), (1, .int (nI x)), (6, .int (nI (pm_bo S x q 30))), (7, .int (nI (pm_sa S x q 30))), (8, .int (nI 30))]) hx hb dL_areEditors_279 hl (k := 2) rfl (by decide) rfl (fun ls hl => ?_)
                              refine lv_goto (tgt := 145) hx hb dL_areEditors_282 (by decide) ?_
                              exact ih152 (q + 1) ls (by omega) (by omega) (by exact lv_sub hl [1, 2, 0] rfl) 
                          · skip
                            have hmk := pm_mk3 (hI.1.okm k (by omega)) (show x < 3 by omega)
                            have hmq := pm_mk3 (hI.1.okm k (by omega)) (show q < 3 by omega)
                            rcases (show pm_mk (S 4 k) x = 0 ∨ pm_mk (S 4 k) x = 1 ∨ pm_mk (S 4 k) x = 2 by omega) with hm | hm | hm
                            · skip
                              rcases (show pm_mk (S 4 k) q = 0 ∨ pm_mk (S 4 k) q = 1 ∨ pm_mk (S 4 k) q = 2 by omega) with hn | hn | hn
                              · skip
                                refine lv_aload_n hx hb dL_areEditors_167 rfl (lv_at hl 0 rfl) ?_
                                refine lv_iload_n hx hb dL_areEditors_168 rfl (lv_at hl 1 rfl) ?_
                                refine lv_iload hx hb dL_areEditors_169 (lv_at hl 5 rfl) ?_
                                refine vp_callSi (W.runS (As := [.ref (L 0 0), .int (nI x), .int (nI k)]) (rest := []) ⟨hx, hb, hml, hown, hts⟩ (k_L_mark l D y L S Bs pi kn Gs sv U x k hI (by omega) (by omega)) (va_cwS 3 hts gL_areEditors_L_mark rfl rfl rfl hd_L_mark ⟨Nat.le_of_ble_eq_true rfl, Nat.le_of_ble_eq_true rfl⟩) ⟨pm_ro_blind, pm_ro_pre hP hK⟩ rfl rfl hl.1 rfl (lv_room (Nat.le_of_ble_eq_true rfl)) dL_areEditors_171 ⟨Nat.le_of_ble_eq_true rfl, Nat.le_of_ble_eq_true rfl⟩) (fun r165 h166 => ?_)
                                obtain rfl : r165 = nI 0 := h166.trans (congrArg nI hm)
                                refine lv_if_le (tgt := 192) hx hb dL_areEditors_174 (by decide) (fun _ => ?_) (fun c167 => (c167 (by decide)).elim)
                                refine lv_iconst (v := nI 0) hx hb dL_areEditors_192 (by decide) ?_
                                refine lv_istore (lv' := [(9, .int (nI 0)), (0, .ref (L 0 0)), (1, .int (nI x)), (5, .int (nI q)), (6, .int (nI (pm_bo S x q k))), (7, .int (nI (pm_sa S x q k))), (8, .int (nI k))]) hx hb dL_areEditors_193 hl (by decide) rfl (fun ls hl => ?_)
                                refine lv_iload hx hb dL_areEditors_195 (lv_at hl 4 rfl) ?_
                                refine lv_iload hx hb dL_areEditors_197 (lv_at hl 0 rfl) ?_
                                refine lv_if_eq (tgt := 206) hx hb dL_areEditors_199 (by decide) (fun _ => ?_) (fun c168 => (c168 (by decide)).elim)
                                refine lv_iconst (v := nI 0) hx hb dL_areEditors_206 (by decide) ?_
                                refine kx_iadd hx hb dL_areEditors_207 ?_
                                refine lv_istore (lv' := [(6, .int (nI ((pm_bo S x q k) + 0))), (9, .int (nI 0)), (0, .ref (L 0 0)), (1, .int (nI x)), (5, .int (nI q)), (7, .int (nI (pm_sa S x q k))), (8, .int (nI k))]) hx hb dL_areEditors_208 hl (by decide) rfl (fun ls hl => ?_)
                                refine lv_iload hx hb dL_areEditors_210 (lv_at hl 5 rfl) ?_
                                refine lv_iload hx hb dL_areEditors_212 (lv_at hl 1 rfl) ?_
                                refine lv_if_eq (tgt := 239) hx hb dL_areEditors_214 (by decide) (fun _ => ?_) (fun c169 => (c169 (by decide)).elim)
                                refine lv_iconst (v := nI 0) hx hb dL_areEditors_239 (by decide) ?_
                                refine kx_iadd hx hb dL_areEditors_240 ?_
                                refine lv_istore (lv' := [(7, .int (nI ((pm_sa S x q k) + 0))), (6, .int (nI ((pm_bo S x q k) + 0))), (9, .int (nI 0)), (0, .ref (L 0 0)), (1, .int (nI x)), (5, .int (nI q)), (8, .int (nI k))]) hx hb dL_areEditors_241 hl (by decide) rfl (fun ls hl => ?_)
                                refine kx_iinc (a := k) (lv' := [(8, .int (nI (k + 1))), (7, .int (nI ((pm_sa S x q k) + 0))), (6, .int (nI ((pm_bo S x q k) + 0))), (9, .int (nI 0)), (0, .ref (L 0 0)), (1, .int (nI x)), (5, .int (nI q))]) hx hb dL_areEditors_243 hl (k := 6) rfl (by decide) rfl (fun ls hl => ?_)
                                refine lv_goto (tgt := 160) hx hb dL_areEditors_246 (by decide) ?_
                                have q170 : (nI (pm_bo S x q (k + 1)) : Int32) = nI ((pm_bo S x q k) + 0) := (congrArg nI (by first | exact pm_num_p (decide_eq_true (by omega)) | exact pm_num_n (decide_eq_false (by omega))))
                                have q171 : (nI (pm_sa S x q (k + 1)) : Int32) = nI ((pm_sa S x q k) + 0) := (congrArg nI (by first | exact pm_num_p (decide_eq_true (by omega)) | exact pm_num_n (decide_eq_false (by omega))))
                                exact ih154 (k + 1) ls (by omega) (by omega) (by rw [q170, q171]; exact lv_sub hl [4, 5, 6, 2, 1, 0] rfl) 
                              · skip
                                refine lv_aload_n hx hb dL_areEditors_167 rfl (lv_at hl 0 rfl) ?_
                                refine lv_iload_n hx hb dL_areEditors_168 rfl (lv_at hl 1 rfl) ?_
                                refine lv_iload hx hb dL_areEditors_169 (lv_at hl 5 rfl) ?_
                                refine vp_callSi (W.runS (As := [.ref (L 0 0), .int (nI x), .int (nI k)]) (rest := []) ⟨hx, hb, hml, hown, hts⟩ (k_L_mark l D y L S Bs pi kn Gs sv U x k hI (by omega) (by omega)) (va_cwS 3 hts gL_areEditors_L_mark rfl rfl rfl hd_L_mark ⟨Nat.le_of_ble_eq_true rfl, Nat.le_of_ble_eq_true rfl⟩) ⟨pm_ro_blind, pm_ro_pre hP hK⟩ rfl rfl hl.1 rfl (lv_room (Nat.le_of_ble_eq_true rfl)) dL_areEditors_171 ⟨Nat.le_of_ble_eq_true rfl, Nat.le_of_ble_eq_true rfl⟩) (fun r172 h173 => ?_)
                                obtain rfl : r172 = nI 0 := h173.trans (congrArg nI hm)
                                refine lv_if_le (tgt := 192) hx hb dL_areEditors_174 (by decide) (fun _ => ?_) (fun c174 => (c174 (by decide)).elim)
                                refine lv_iconst (v := nI 0) hx hb dL_areEditors_192 (by decide) ?_
                                refine lv_istore (lv' := [(9, .int (nI 0)), (0, .ref (L 0 0)), (1, .int (nI x)), (5, .int (nI q)), (6, .int (nI (pm_bo S x q k))), (7, .int (nI (pm_sa S x q k))), (8, .int (nI k))]) hx hb dL_areEditors_193 hl (by decide) rfl (fun ls hl => ?_)
                                refine lv_iload hx hb dL_areEditors_195 (lv_at hl 4 rfl) ?_
                                refine lv_iload hx hb dL_areEditors_197 (lv_at hl 0 rfl) ?_
                                refine lv_if_eq (tgt := 206) hx hb dL_areEditors_199 (by decide) (fun _ => ?_) (fun c175 => (c175 (by decide)).elim)
                                refine lv_iconst (v := nI 0) hx hb dL_areEditors_206 (by decide) ?_
                                refine kx_iadd hx hb dL_areEditors_207 ?_
                                refine lv_istore (lv' := [(6, .int (nI ((pm_bo S x q k) + 0))), (9, .int (nI 0)), (0, .ref (L 0 0)), (1, .int (nI x)), (5, .int (nI q)), (7, .int (nI (pm_sa S x q k))), (8, .int (nI k))]) hx hb dL_areEditors_208 hl (by decide) rfl (fun ls hl => ?_)
                                refine lv_iload hx hb dL_areEditors_210 (lv_at hl 5 rfl) ?_
                                refine lv_iload hx hb dL_areEditors_212 (lv_at hl 1 rfl) ?_
                                refine lv_if_eq (tgt := 239) hx hb dL_areEditors_214 (by decide) (fun _ => ?_) (fun c176 => (c176 (by decide)).elim)
                                refine lv_iconst (v := nI 0) hx hb dL_areEditors_239 (by decide) ?_
                                refine kx_iadd hx hb dL_areEditors_240 ?_
                                refine lv_istore (lv' := [(7, .int (nI ((pm_sa S x q k) + 0))), (6, .int (nI ((pm_bo S x q k) + 0))), (9, .int (nI 0)), (0, .ref (L 0 0)), (1, .int (nI x)), (5, .int (nI q)), (8, .int (nI k))]) hx hb dL_areEditors_241 hl (by decide) rfl (fun ls hl => ?_)
                                refine kx_iinc (a := k) (lv' := [(8, .int (nI (k + 1))), (7, .int (nI ((pm_sa S x q k) + 0))), (6, .int (nI ((pm_bo S x q k) + 0))), (9, .int (nI 0)), (0, .ref (L 0 0)), (1, .int (nI x)), (5, .int (nI q))]) hx hb dL_areEditors_243 hl (k := 6) rfl (by decide) rfl (fun ls hl => ?_)
                                refine lv_goto (tgt := 160) hx hb dL_areEditors_246 (by decide) ?_
                                have q177 : (nI (pm_bo S x q (k + 1)) : Int32) = nI ((pm_bo S x q k) + 0) := (congrArg nI (by first | exact pm_num_p (decide_eq_true (by omega)) | exact pm_num_n (decide_eq_false (by omega))))
                                have q178 : (nI (pm_sa S x q (k + 1)) : Int32) = nI ((pm_sa S x q k) + 0) := (congrArg nI (by first | exact pm_num_p (decide_eq_true (by omega)) | exact pm_num_n (decide_eq_false (by omega))))
                                exact ih154 (k + 1) ls (by omega) (by omega) (by rw [q177, q178]; exact lv_sub hl [4, 5, 6, 2, 1, 0] rfl) 
                              · skip
                                refine lv_aload_n hx hb dL_areEditors_167 rfl (lv_at hl 0 rfl) ?_
                                refine lv_iload_n hx hb dL_areEditors_168 rfl (lv_at hl 1 rfl) ?_
                                refine lv_iload hx hb dL_areEditors_169 (lv_at hl 5 rfl) ?_
                                refine vp_callSi (W.runS (As := [.ref (L 0 0), .int (nI x), .int (nI k)]) (rest := []) ⟨hx, hb, hml, hown, hts⟩ (k_L_mark l D y L S Bs pi kn Gs sv U x k hI (by omega) (by omega)) (va_cwS 3 hts gL_areEditors_L_mark rfl rfl rfl hd_L_mark ⟨Nat.le_of_ble_eq_true rfl, Nat.le_of_ble_eq_true rfl⟩) ⟨pm_ro_blind, pm_ro_pre hP hK⟩ rfl rfl hl.1 rfl (lv_room (Nat.le_of_ble_eq_true rfl)) dL_areEditors_171 ⟨Nat.le_of_ble_eq_true rfl, Nat.le_of_ble_eq_true rfl⟩) (fun r179 h180 => ?_)
                                obtain rfl : r179 = nI 0 := h180.trans (congrArg nI hm)
                                refine lv_if_le (tgt := 192) hx hb dL_areEditors_174 (by decide) (fun _ => ?_) (fun c181 => (c181 (by decide)).elim)
                                refine lv_iconst (v := nI 0) hx hb dL_areEditors_192 (by decide) ?_
                                refine lv_istore (lv' := [(9, .int (nI 0)), (0, .ref (L 0 0)), (1, .int (nI x)), (5, .int (nI q)), (6, .int (nI (pm_bo S x q k))), (7, .int (nI (pm_sa S x q k))), (8, .int (nI k))]) hx hb dL_areEditors_193 hl (by decide) rfl (fun ls hl => ?_)
                                refine lv_iload hx hb dL_areEditors_195 (lv_at hl 4 rfl) ?_
                                refine lv_iload hx hb dL_areEditors_197 (lv_at hl 0 rfl) ?_
                                refine lv_if_eq (tgt := 206) hx hb dL_areEditors_199 (by decide) (fun _ => ?_) (fun c182 => (c182 (by decide)).elim)
                                refine lv_iconst (v := nI 0) hx hb dL_areEditors_206 (by decide) ?_
                                refine kx_iadd hx hb dL_areEditors_207 ?_
                                refine lv_istore (lv' := [(6, .int (nI ((pm_bo S x q k) + 0))), (9, .int (nI 0)), (0, .ref (L 0 0)), (1, .int (nI x)), (5, .int (nI q)), (7, .int (nI (pm_sa S x q k))), (8, .int (nI k))]) hx hb dL_areEditors_208 hl (by decide) rfl (fun ls hl => ?_)
                                refine lv_iload hx hb dL_areEditors_210 (lv_at hl 5 rfl) ?_
                                refine lv_iload hx hb dL_areEditors_212 (lv_at hl 1 rfl) ?_
                                refine lv_if_eq (tgt := 239) hx hb dL_areEditors_214 (by decide) (fun _ => ?_) (fun c183 => (c183 (by decide)).elim)
                                refine lv_iconst (v := nI 0) hx hb dL_areEditors_239 (by decide) ?_
                                refine kx_iadd hx hb dL_areEditors_240 ?_
                                refine lv_istore (lv' := [(7, .int (nI ((pm_sa S x q k) + 0))), (6, .int (nI ((pm_bo S x q k) + 0))), (9, .int (nI 0)), (0, .ref (L 0 0)), (1, .int (nI x)), (5, .int (nI q)), (8, .int (nI k))]) hx hb dL_areEditors_241 hl (by decide) rfl (fun ls hl => ?_)
                                refine kx_iinc (a := k) (lv' := [(8, .int (nI (k + 1))), (7, .int (nI ((pm_sa S x q k) + 0))), (6, .int (nI ((pm_bo S x q k) + 0))), (9, .int (nI 0)), (0, .ref (L 0 0)), (1, .int (nI x)), (5, .int (nI q))]) hx hb dL_areEditors_243 hl (k := 6) rfl (by decide) rfl (fun ls hl => ?_)
                                refine lv_goto (tgt := 160) hx hb dL_areEditors_246 (by decide) ?_
                                have q184 : (nI (pm_bo S x q (k + 1)) : Int32) = nI ((pm_bo S x q k) + 0) := (congrArg nI (by first | exact pm_num_p (decide_eq_true (by omega)) | exact pm_num_n (decide_eq_false (by omega))))
                                have q185 : (nI (pm_sa S x q (k + 1)) : Int32) = nI ((pm_sa S x q k) + 0) := (congrArg nI (by first | exact pm_num_p (decide_eq_true (by omega)) | exact pm_num_n (decide_eq_false (by omega))))
                                exact ih154 (k + 1) ls (by omega) (by omega) (by rw [q184, q185]; exact lv_sub hl [4, 5, 6, 2, 1, 0] rfl) 
                            · skip
                              rcases (show pm_mk (S 4 k) q = 0 ∨ pm_mk (S 4 k) q = 1 ∨ pm_mk (S 4 k) q = 2 by omega) with hn | hn | hn
                              · skip
                                refine lv_aload_n hx hb dL_areEditors_167 rfl (lv_at hl 0 rfl) ?_
                                refine lv_iload_n hx hb dL_areEditors_168 rfl (lv_at hl 1 rfl) ?_
                                refine lv_iload hx hb dL_areEditors_169 (lv_at hl 5 rfl) ?_
                                refine vp_callSi (W.runS (As := [.ref (L 0 0), .int (nI x), .int (nI k)]) (rest := []) ⟨hx, hb, hml, hown, hts⟩ (k_L_mark l D y L S Bs pi kn Gs sv U x k hI (by omega) (by omega)) (va_cwS 3 hts gL_areEditors_L_mark rfl rfl rfl hd_L_mark ⟨Nat.le_of_ble_eq_true rfl, Nat.le_of_ble_eq_true rfl⟩) ⟨pm_ro_blind, pm_ro_pre hP hK⟩ rfl rfl hl.1 rfl (lv_room (Nat.le_of_ble_eq_true rfl)) dL_areEditors_171 ⟨Nat.le_of_ble_eq_true rfl, Nat.le_of_ble_eq_true rfl⟩) (fun r186 h187 => ?_)
                                obtain rfl : r186 = nI 1 := h187.trans (congrArg nI hm)
                                refine lv_if_le (tgt := 192) hx hb dL_areEditors_174 (by decide) (fun c188 => absurd c188 (by decide)) (fun _ => ?_)
                                refine lv_aload_n hx hb dL_areEditors_177 rfl (lv_at hl 0 rfl) ?_
                                refine lv_iload hx hb dL_areEditors_178 (lv_at hl 2 rfl) ?_
                                refine lv_iload hx hb dL_areEditors_180 (lv_at hl 5 rfl) ?_
                                refine vp_callSi (W.runS (As := [.ref (L 0 0), .int (nI q), .int (nI k)]) (rest := []) ⟨hx, hb, hml, hown, hts⟩ (k_L_mark l D y L S Bs pi kn Gs sv U q k hI (by omega) (by omega)) (va_cwS 3 hts gL_areEditors_L_mark rfl rfl rfl hd_L_mark ⟨Nat.le_of_ble_eq_true rfl, Nat.le_of_ble_eq_true rfl⟩) ⟨pm_ro_blind, pm_ro_pre hP hK⟩ rfl rfl hl.1 rfl (lv_room (Nat.le_of_ble_eq_true rfl)) dL_areEditors_182 ⟨Nat.le_of_ble_eq_true rfl, Nat.le_of_ble_eq_true rfl⟩) (fun r189 h190 => ?_)
                                obtain rfl : r189 = nI 0 := h190.trans (congrArg nI hn)
                                refine lv_if_le (tgt := 192) hx hb dL_areEditors_185 (by decide) (fun _ => ?_) (fun c191 => (c191 (by decide)).elim)
                                refine lv_iconst (v := nI 0) hx hb dL_areEditors_192 (by decide) ?_
                                refine lv_istore (lv' := [(9, .int (nI 0)), (0, .ref (L 0 0)), (1, .int (nI x)), (5, .int (nI q)), (6, .int (nI (pm_bo S x q k))), (7, .int (nI (pm_sa S x q k))), (8, .int (nI k))]) hx hb dL_areEditors_193 hl (by decide) rfl (fun ls hl => ?_)
                                refine lv_iload hx hb dL_areEditors_195 (lv_at hl 4 rfl) ?_
                                refine lv_iload hx hb dL_areEditors_197 (lv_at hl 0 rfl) ?_
                                refine lv_if_eq (tgt := 206) hx hb dL_areEditors_199 (by decide) (fun _ => ?_) (fun c192 => (c192 (by decide)).elim)
                                refine lv_iconst (v := nI 0) hx hb dL_areEditors_206 (by decide) ?_
                                refine kx_iadd hx hb dL_areEditors_207 ?_
                                refine lv_istore (lv' := [(6, .int (nI ((pm_bo S x q k) + 0))), (9, .int (nI 0)), (0, .ref (L 0 0)), (1, .int (nI x)), (5, .int (nI q)), (7, .int (nI (pm_sa S x q k))), (8, .int (nI k))]) hx hb dL_areEditors_208 hl (by decide) rfl (fun ls hl => ?_)
                                refine lv_iload hx hb dL_areEditors_210 (lv_at hl 5 rfl) ?_
                                refine lv_iload hx hb dL_areEditors_212 (lv_at hl 1 rfl) ?_
                                refine lv_if_eq (tgt := 239) hx hb dL_areEditors_214 (by decide) (fun _ => ?_) (fun c193 => (c193 (by decide)).elim)
                                refine lv_iconst (v := nI 0) hx hb dL_areEditors_239 (by decide) ?_
                                refine kx_iadd hx hb dL_areEditors_240 ?_
                                refine lv_istore (lv' := [(7, .int (nI ((pm_sa S x q k) + 0))), (6, .int (nI ((pm_bo S x q k) + 0))), (9, .int (nI 0)), (0, .ref (L 0 0)), (1, .int (nI x)), (5, .int (nI q)), (8, .int (nI k))]) hx hb dL_areEditors_241 hl (by decide) rfl (fun ls hl => ?_)
                                refine kx_iinc (a := k) (lv' := [(8, .int (nI (k + 1))), (7, .int (nI ((pm_sa S x q k) + 0))), (6, .int (nI ((pm_bo S x q k) + 0))), (9, .int (nI 0)), (0, .ref (L 0 0)), (1, .int (nI x)), (5, .int (nI q))]) hx hb dL_areEditors_243 hl (k := 6) rfl (by decide) rfl (fun ls hl => ?_)
                                refine lv_goto (tgt := 160) hx hb dL_areEditors_246 (by decide) ?_
                                have q194 : (nI (pm_bo S x q (k + 1)) : Int32) = nI ((pm_bo S x q k) + 0) := (congrArg nI (by first | exact pm_num_p (decide_eq_true (by omega)) | exact pm_num_n (decide_eq_false (by omega))))
                                have q195 : (nI (pm_sa S x q (k + 1)) : Int32) = nI ((pm_sa S x q k) + 0) := (congrArg nI (by first | exact pm_num_p (decide_eq_true (by omega)) | exact pm_num_n (decide_eq_false (by omega))))
                                exact ih154 (k + 1) ls (by omega) (by omega) (by rw [q194, q195]; exact lv_sub hl [4, 5, 6, 2, 1, 0] rfl) 
                              · skip
                                refine lv_aload_n hx hb dL_areEditors_167 rfl (lv_at hl 0 rfl) ?_
                                refine lv_iload_n hx hb dL_areEditors_168 rfl (lv_at hl 1 rfl) ?_
                                refine lv_iload hx hb dL_areEditors_169 (lv_at hl 5 rfl) ?_
                                refine vp_callSi (W.runS (As := [.ref (L 0 0), .int (nI x), .int (nI k)]) (rest := []) ⟨hx, hb, hml, hown, hts⟩ (k_L_mark l D y L S Bs pi kn Gs sv U x k hI (by omega) (by omega)) (va_cwS 3 hts gL_areEditors_L_mark rfl rfl rfl hd_L_mark ⟨Nat.le_of_ble_eq_true rfl, Nat.le_of_ble_eq_true rfl⟩) ⟨pm_ro_blind, pm_ro_pre hP hK⟩ rfl rfl hl.1 rfl (lv_room (Nat.le_of_ble_eq_true rfl)) dL_areEditors_171 ⟨Nat.le_of_ble_eq_true rfl, Nat.le_of_ble_eq_true rfl⟩) (fun r196 h197 => ?_)
                                obtain rfl : r196 = nI 1 := h197.trans (congrArg nI hm)
                                refine lv_if_le (tgt := 192) hx hb dL_areEditors_174 (by decide) (fun c198 => absurd c198 (by decide)) (fun _ => ?_)
                                refine lv_aload_n hx hb dL_areEditors_177 rfl (lv_at hl 0 rfl) ?_
                                refine lv_iload hx hb dL_areEditors_178 (lv_at hl 2 rfl) ?_
                                refine lv_iload hx hb dL_areEditors_180 (lv_at hl 5 rfl) ?_
                                refine vp_callSi (W.runS (As := [.ref (L 0 0), .int (nI q), .int (nI k)]) (rest := []) ⟨hx, hb, hml, hown, hts⟩ (k_L_mark l D y L S Bs pi kn Gs sv U q k hI (by omega) (by omega)) (va_cwS 3 hts gL_areEditors_L_mark rfl rfl rfl hd_L_mark ⟨Nat.le_of_ble_eq_true rfl, Nat.le_of_ble_eq_true rfl⟩) ⟨pm_ro_blind, pm_ro_pre hP hK⟩ rfl rfl hl.1 rfl (lv_room (Nat.le_of_ble_eq_true rfl)) dL_areEditors_182 ⟨Nat.le_of_ble_eq_true rfl, Nat.le_of_ble_eq_true rfl⟩) (fun r199 h200 => ?_)
                                obtain rfl : r199 = nI 1 := h200.trans (congrArg nI hn)
                                refine lv_if_le (tgt := 192) hx hb dL_areEditors_185 (by decide) (fun c201 => absurd c201 (by decide)) (fun _ => ?_)
                                refine lv_iconst (v := nI 1) hx hb dL_areEditors_188 (by decide) ?_
                                refine lv_goto (tgt := 193) hx hb dL_areEditors_189 (by decide) ?_
                                refine lv_istore (lv' := [(9, .int (nI 1)), (0, .ref (L 0 0)), (1, .int (nI x)), (5, .int (nI q)), (6, .int (nI (pm_bo S x q k))), (7, .int (nI (pm_sa S x q k))), (8, .int (nI k))]) hx hb dL_areEditors_193 hl (by decide) rfl (fun ls hl => ?_)
                                refine lv_iload hx hb dL_areEditors_195 (lv_at hl 4 rfl) ?_
                                refine lv_iload hx hb dL_areEditors_197 (lv_at hl 0 rfl) ?_
                                refine lv_if_eq (tgt := 206) hx hb dL_areEditors_199 (by decide) (fun c202 => absurd c202 (by decide)) (fun _ => ?_)
                                refine lv_iconst (v := nI 1) hx hb dL_areEditors_202 (by decide) ?_
                                refine lv_goto (tgt := 207) hx hb dL_areEditors_203 (by decide) ?_
                                refine kx_iadd hx hb dL_areEditors_207 ?_
                                refine lv_istore (lv' := [(6, .int (nI ((pm_bo S x q k) + 1))), (9, .int (nI 1)), (0, .ref (L 0 0)), (1, .int (nI x)), (5, .int (nI q)), (7, .int (nI (pm_sa S x q k))), (8, .int (nI k))]) hx hb dL_areEditors_208 hl (by decide) rfl (fun ls hl => ?_)
                                refine lv_iload hx hb dL_areEditors_210 (lv_at hl 5 rfl) ?_
                                refine lv_iload hx hb dL_areEditors_212 (lv_at hl 1 rfl) ?_
                                refine lv_if_eq (tgt := 239) hx hb dL_areEditors_214 (by decide) (fun c203 => absurd c203 (by decide)) (fun _ => ?_)
                                refine lv_aload_n hx hb dL_areEditors_217 rfl (lv_at hl 2 rfl) ?_
                                refine lv_iload_n hx hb dL_areEditors_218 rfl (lv_at hl 3 rfl) ?_
                                refine lv_iload hx hb dL_areEditors_219 (lv_at hl 6 rfl) ?_
                                refine vp_callSi (W.runS (As := [.ref (L 0 0), .int (nI x), .int (nI k)]) (rest := [.int (nI (pm_sa S x q k))]) ⟨hx, hb, hml, hown, hts⟩ (k_L_mark l D y L S Bs pi kn Gs sv U x k hI (by omega) (by omega)) (va_cwS 3 hts gL_areEditors_L_mark rfl rfl rfl hd_L_mark ⟨Nat.le_of_ble_eq_true rfl, Nat.le_of_ble_eq_true rfl⟩) ⟨pm_ro_blind, pm_ro_pre hP hK⟩ rfl rfl hl.1 rfl (lv_room (Nat.le_of_ble_eq_true rfl)) dL_areEditors_221 ⟨Nat.le_of_ble_eq_true rfl, Nat.le_of_ble_eq_true rfl⟩) (fun r204 h205 => ?_)
                                obtain rfl : r204 = nI 1 := h205.trans (congrArg nI hm)
                                refine lv_aload_n hx hb dL_areEditors_224 rfl (lv_at hl 2 rfl) ?_
                                refine lv_iload hx hb dL_areEditors_225 (lv_at hl 4 rfl) ?_
                                refine lv_iload hx hb dL_areEditors_227 (lv_at hl 6 rfl) ?_
                                refine vp_callSi (W.runS (As := [.ref (L 0 0), .int (nI q), .int (nI k)]) (rest := [.int (nI 1), .int (nI (pm_sa S x q k))]) ⟨hx, hb, hml, hown, hts⟩ (k_L_mark l D y L S Bs pi kn Gs sv U q k hI (by omega) (by omega)) (va_cwS 3 hts gL_areEditors_L_mark rfl rfl rfl hd_L_mark ⟨Nat.le_of_ble_eq_true rfl, Nat.le_of_ble_eq_true rfl⟩) ⟨pm_ro_blind, pm_ro_pre hP hK⟩ rfl rfl hl.1 rfl (lv_room (Nat.le_of_ble_eq_true rfl)) dL_areEditors_229 ⟨Nat.le_of_ble_eq_true rfl, Nat.le_of_ble_eq_true rfl⟩) (fun r206 h207 => ?_)
                                obtain rfl : r206 = nI 1 := h207.trans (congrArg nI hn)
                                refine lv_icmp_ne (tgt := 239) hx hb dL_areEditors_232 (by decide) (fun c208 => (c208 (by decide)).elim) (fun _ => ?_)
                                refine lv_iconst (v := nI 1) hx hb dL_areEditors_235 (by decide) ?_
                                refine lv_goto (tgt := 240) hx hb dL_areEditors_236 (by decide) ?_
                                refine kx_iadd hx hb dL_areEditors_240 ?_
                                refine lv_istore (lv' := [(7, .int (nI ((pm_sa S x q k) + 1))), (6, .int (nI ((pm_bo S x q k) + 1))), (9, .int (nI 1)), (0, .ref (L 0 0)), (1, .int (nI x)), (5, .int (nI q)), (8, .int (nI k))]) hx hb dL_areEditors_241 hl (by decide) rfl (fun ls hl => ?_)
                                refine kx_iinc (a := k) (lv' := [(8, .int (nI (k + 1))), (7, .int (nI ((pm_sa S x q k) + 1))), (6, .int (nI ((pm_bo S x q k) + 1))), (9, .int (nI 1)), (0, .ref (L 0 0)), (1, .int (nI x)), (5, .int (nI q))]) hx hb dL_areEditors_243 hl (k := 6) rfl (by decide) rfl (fun ls hl => ?_)
                                refine lv_goto (tgt := 160) hx hb dL_areEditors_246 (by decide) ?_
                                have q209 : (nI (pm_bo S x q (k + 1)) : Int32) = nI ((pm_bo S x q k) + 1) := (congrArg nI (by first | exact pm_num_p (decide_eq_true (by omega)) | exact pm_num_n (decide_eq_false (by omega))))
                                have q210 : (nI (pm_sa S x q (k + 1)) : Int32) = nI ((pm_sa S x q k) + 1) := (congrArg nI (by first | exact pm_num_p (decide_eq_true (by omega)) | exact pm_num_n (decide_eq_false (by omega))))
                                exact ih154 (k + 1) ls (by omega) (by omega) (by rw [q209, q210]; exact lv_sub hl [4, 5, 6, 2, 1, 0] rfl) 
                              · skip
                                refine lv_aload_n hx hb dL_areEditors_167 rfl (lv_at hl 0 rfl) ?_
                                refine lv_iload_n hx hb dL_areEditors_168 rfl (lv_at hl 1 rfl) ?_
                                refine lv_iload hx hb dL_areEditors_169 (lv_at hl 5 rfl) ?_
                                refine vp_callSi (W.runS (As := [.ref (L 0 0), .int (nI x), .int (nI k)]) (rest := []) ⟨hx, hb, hml, hown, hts⟩ (k_L_mark l D y L S Bs pi kn Gs sv U x k hI (by omega) (by omega)) (va_cwS 3 hts gL_areEditors_L_mark rfl rfl rfl hd_L_mark ⟨Nat.le_of_ble_eq_true rfl, Nat.le_of_ble_eq_true rfl⟩) ⟨pm_ro_blind, pm_ro_pre hP hK⟩ rfl rfl hl.1 rfl (lv_room (Nat.le_of_ble_eq_true rfl)) dL_areEditors_171 ⟨Nat.le_of_ble_eq_true rfl, Nat.le_of_ble_eq_true rfl⟩) (fun r211 h212 => ?_)
                                obtain rfl : r211 = nI 1 := h212.trans (congrArg nI hm)
                                refine lv_if_le (tgt := 192) hx hb dL_areEditors_174 (by decide) (fun c213 => absurd c213 (by decide)) (fun _ => ?_)
                                refine lv_aload_n hx hb dL_areEditors_177 rfl (lv_at hl 0 rfl) ?_
                                refine lv_iload hx hb dL_areEditors_178 (lv_at hl 2 rfl) ?_
                                refine lv_iload hx hb dL_areEditors_180 (lv_at hl 5 rfl) ?_
                                refine vp_callSi (W.runS (As := [.ref (L 0 0), .int (nI q), .int (nI k)]) (rest := []) ⟨hx, hb, hml, hown, hts⟩ (k_L_mark l D y L S Bs pi kn Gs sv U q k hI (by omega) (by omega)) (va_cwS 3 hts gL_areEditors_L_mark rfl rfl rfl hd_L_mark ⟨Nat.le_of_ble_eq_true rfl, Nat.le_of_ble_eq_true rfl⟩) ⟨pm_ro_blind, pm_ro_pre hP hK⟩ rfl rfl hl.1 rfl (lv_room (Nat.le_of_ble_eq_true rfl)) dL_areEditors_182 ⟨Nat.le_of_ble_eq_true rfl, Nat.le_of_ble_eq_true rfl⟩) (fun r214 h215 => ?_)
                                obtain rfl : r214 = nI 2 := h215.trans (congrArg nI hn)
                                refine lv_if_le (tgt := 192) hx hb dL_areEditors_185 (by decide) (fun c216 => absurd c216 (by decide)) (fun _ => ?_)
                                refine lv_iconst (v := nI 1) hx hb dL_areEditors_188 (by decide) ?_
                                refine lv_goto (tgt := 193) hx hb dL_areEditors_189 (by decide) ?_
                                refine lv_istore (lv' := [(9, .int (nI 1)), (0, .ref (L 0 0)), (1, .int (nI x)), (5, .int (nI q)), (6, .int (nI (pm_bo S x q k))), (7, .int (nI (pm_sa S x q k))), (8, .int (nI k))]) hx hb dL_areEditors_193 hl (by decide) rfl (fun ls hl => ?_)
                                refine lv_iload hx hb dL_areEditors_195 (lv_at hl 4 rfl) ?_
                                refine lv_iload hx hb dL_areEditors_197 (lv_at hl 0 rfl) ?_
                                refine lv_if_eq (tgt := 206) hx hb dL_areEditors_199 (by decide) (fun c217 => absurd c217 (by decide)) (fun _ => ?_)
                                refine lv_iconst (v := nI 1) hx hb dL_areEditors_202 (by decide) ?_
                                refine lv_goto (tgt := 207) hx hb dL_areEditors_203 (by decide) ?_
                                refine kx_iadd hx hb dL_areEditors_207 ?_
                                refine lv_istore (lv' := [(6, .int (nI ((pm_bo S x q k) + 1))), (9, .int (nI 1)), (0, .ref (L 0 0)), (1, .int (nI x)), (5, .int (nI q)), (7, .int (nI (pm_sa S x q k))), (8, .int (nI k))]) hx hb dL_areEditors_208 hl (by decide) rfl (fun ls hl => ?_)
                                refine lv_iload hx hb dL_areEditors_210 (lv_at hl 5 rfl) ?_
                                refine lv_iload hx hb dL_areEditors_212 (lv_at hl 1 rfl) ?_
                                refine lv_if_eq (tgt := 239) hx hb dL_areEditors_214 (by decide) (fun c218 => absurd c218 (by decide)) (fun _ => ?_)
                                refine lv_aload_n hx hb dL_areEditors_217 rfl (lv_at hl 2 rfl) ?_
                                refine lv_iload_n hx hb dL_areEditors_218 rfl (lv_at hl 3 rfl) ?_
                                refine lv_iload hx hb dL_areEditors_219 (lv_at hl 6 rfl) ?_
                                refine vp_callSi (W.runS (As := [.ref (L 0 0), .int (nI x), .int (nI k)]) (rest := [.int (nI (pm_sa S x q k))]) ⟨hx, hb, hml, hown, hts⟩ (k_L_mark l D y L S Bs pi kn Gs sv U x k hI (by omega) (by omega)) (va_cwS 3 hts gL_areEditors_L_mark rfl rfl rfl hd_L_mark ⟨Nat.le_of_ble_eq_true rfl, Nat.le_of_ble_eq_true rfl⟩) ⟨pm_ro_blind, pm_ro_pre hP hK⟩ rfl rfl hl.1 rfl (lv_room (Nat.le_of_ble_eq_true rfl)) dL_areEditors_221 ⟨Nat.le_of_ble_eq_true rfl, Nat.le_of_ble_eq_true rfl⟩) (fun r219 h220 => ?_)
                                obtain rfl : r219 = nI 1 := h220.trans (congrArg nI hm)
                                refine lv_aload_n hx hb dL_areEditors_224 rfl (lv_at hl 2 rfl) ?_
                                refine lv_iload hx hb dL_areEditors_225 (lv_at hl 4 rfl) ?_
                                refine lv_iload hx hb dL_areEditors_227 (lv_at hl 6 rfl) ?_
                                refine vp_callSi (W.runS (As := [.ref (L 0 0), .int (nI q), .int (nI k)]) (rest := [.int (nI 1), .int (nI (pm_sa S x q k))]) ⟨hx, hb, hml, hown, hts⟩ (k_L_mark l D y L S Bs pi kn Gs sv U q k hI (by omega) (by omega)) (va_cwS 3 hts gL_areEditors_L_mark rfl rfl rfl hd_L_mark ⟨Nat.le_of_ble_eq_true rfl, Nat.le_of_ble_eq_true rfl⟩) ⟨pm_ro_blind, pm_ro_pre hP hK⟩ rfl rfl hl.1 rfl (lv_room (Nat.le_of_ble_eq_true rfl)) dL_areEditors_229 ⟨Nat.le_of_ble_eq_true rfl, Nat.le_of_ble_eq_true rfl⟩) (fun r221 h222 => ?_)
                                obtain rfl : r221 = nI 2 := h222.trans (congrArg nI hn)
                                refine lv_icmp_ne (tgt := 239) hx hb dL_areEditors_232 (by decide) (fun _ => ?_) (fun c223 => absurd c223 (by decide))
                                refine lv_iconst (v := nI 0) hx hb dL_areEditors_239 (by decide) ?_
                                refine kx_iadd hx hb dL_areEditors_240 ?_
                                refine lv_istore (lv' := [(7, .int (nI ((pm_sa S x q k) + 0))), (6, .int (nI ((pm_bo S x q k) + 1))), (9, .int (nI 1)), (0, .ref (L 0 0)), (1, .int (nI x)), (5, .int (nI q)), (8, .int (nI k))]) hx hb dL_areEditors_241 hl (by decide) rfl (fun ls hl => ?_)
                                refine kx_iinc (a := k) (lv' := [(8, .int (nI (k + 1))), (7, .int (nI ((pm_sa S x q k) + 0))), (6, .int (nI ((pm_bo S x q k) + 1))), (9, .int (nI 1)), (0, .ref (L 0 0)), (1, .int (nI x)), (5, .int (nI q))]) hx hb dL_areEditors_243 hl (k := 6) rfl (by decide) rfl (fun ls hl => ?_)
                                refine lv_goto (tgt := 160) hx hb dL_areEditors_246 (by decide) ?_
                                have q224 : (nI (pm_bo S x q (k + 1)) : Int32) = nI ((pm_bo S x q k) + 1) := (congrArg nI (by first | exact pm_num_p (decide_eq_true (by omega)) | exact pm_num_n (decide_eq_false (by omega))))
                                have q225 : (nI (pm_sa S x q (k + 1)) : Int32) = nI ((pm_sa S x q k) + 0) := (congrArg nI (by first | exact pm_num_p (decide_eq_true (by omega)) | exact pm_num_n (decide_eq_false (by omega))))
                                exact ih154 (k + 1) ls (by omega) (by omega) (by rw [q224, q225]; exact lv_sub hl [4, 5, 6, 2, 1, 0] rfl) 
                            · skip
                              rcases (show pm_mk (S 4 k) q = 0 ∨ pm_mk (S 4 k) q = 1 ∨ pm_mk (S 4 k) q = 2 by omega) with hn | hn | hn
                              · skip
                                refine lv_aload_n hx hb dL_areEditors_167 rfl (lv_at hl 0 rfl) ?_
                                refine lv_iload_n hx hb dL_areEditors_168 rfl (lv_at hl 1 rfl) ?_
                                refine lv_iload hx hb dL_areEditors_169 (lv_at hl 5 rfl) ?_
                                refine vp_callSi (W.runS (As := [.ref (L 0 0), .int (nI x), .int (nI k)]) (rest := []) ⟨hx, hb, hml, hown, hts⟩ (k_L_mark l D y L S Bs pi kn Gs sv U x k hI (by omega) (by omega)) (va_cwS 3 hts gL_areEditors_L_mark rfl rfl rfl hd_L_mark ⟨Nat.le_of_ble_eq_true rfl, Nat.le_of_ble_eq_true rfl⟩) ⟨pm_ro_blind, pm_ro_pre hP hK⟩ rfl rfl hl.1 rfl (lv_room (Nat.le_of_ble_eq_true rfl)) dL_areEditors_171 ⟨Nat.le_of_ble_eq_true rfl, Nat.le_of_ble_eq_true rfl⟩) (fun r226 h227 => ?_)
                                obtain rfl : r226 = nI 2 := h227.trans (congrArg nI hm)
                                refine lv_if_le (tgt := 192) hx hb dL_areEditors_174 (by decide) (fun c228 => absurd c228 (by decide)) (fun _ => ?_)
                                refine lv_aload_n hx hb dL_areEditors_177 rfl (lv_at hl 0 rfl) ?_
                                refine lv_iload hx hb dL_areEditors_178 (lv_at hl 2 rfl) ?_
                                refine lv_iload hx hb dL_areEditors_180 (lv_at hl 5 rfl) ?_
                                refine vp_callSi (W.runS (As := [.ref (L 0 0), .int (nI q), .int (nI k)]) (rest := []) ⟨hx, hb, hml, hown, hts⟩ (k_L_mark l D y L S Bs pi kn Gs sv U q k hI (by omega) (by omega)) (va_cwS 3 hts gL_areEditors_L_mark rfl rfl rfl hd_L_mark ⟨Nat.le_of_ble_eq_true rfl, Nat.le_of_ble_eq_true rfl⟩) ⟨pm_ro_blind, pm_ro_pre hP hK⟩ rfl rfl hl.1 rfl (lv_room (Nat.le_of_ble_eq_true rfl)) dL_areEditors_182 ⟨Nat.le_of_ble_eq_true rfl, Nat.le_of_ble_eq_true rfl⟩) (fun r229 h230 => ?_)
                                obtain rfl : r229 = nI 0 := h230.trans (congrArg nI hn)
                                refine lv_if_le (tgt := 192) hx hb dL_areEditors_185 (by decide) (fun _ => ?_) (fun c231 => (c231 (by decide)).elim)
                                refine lv_iconst (v := nI 0) hx hb dL_areEditors_192 (by decide) ?_
                                refine lv_istore (lv' := [(9, .int (nI 0)), (0, .ref (L 0 0)), (1, .int (nI x)), (5, .int (nI q)), (6, .int (nI (pm_bo S x q k))), (7, .int (nI (pm_sa S x q k))), (8, .int (nI k))]) hx hb dL_areEditors_193 hl (by decide) rfl (fun ls hl => ?_)
                                refine lv_iload hx hb dL_areEditors_195 (lv_at hl 4 rfl) ?_
                                refine lv_iload hx hb dL_areEditors_197 (lv_at hl 0 rfl) ?_
                                refine lv_if_eq (tgt := 206) hx hb dL_areEditors_199 (by decide) (fun _ => ?_) (fun c232 => (c232 (by decide)).elim)
                                refine lv_iconst (v := nI 0) hx hb dL_areEditors_206 (by decide) ?_
                                refine kx_iadd hx hb dL_areEditors_207 ?_
                                refine lv_istore (lv' := [(6, .int (nI ((pm_bo S x q k) + 0))), (9, .int (nI 0)), (0, .ref (L 0 0)), (1, .int (nI x)), (5, .int (nI q)), (7, .int (nI (pm_sa S x q k))), (8, .int (nI k))]) hx hb dL_areEditors_208 hl (by decide) rfl (fun ls hl => ?_)
                                refine lv_iload hx hb dL_areEditors_210 (lv_at hl 5 rfl) ?_
                                refine lv_iload hx hb dL_areEditors_212 (lv_at hl 1 rfl) ?_
                                refine lv_if_eq (tgt := 239) hx hb dL_areEditors_214 (by decide) (fun _ => ?_) (fun c233 => (c233 (by decide)).elim)
                                refine lv_iconst (v := nI 0) hx hb dL_areEditors_239 (by decide) ?_
                                refine kx_iadd hx hb dL_areEditors_240 ?_
                                refine lv_istore (lv' := [(7, .int (nI ((pm_sa S x q k) + 0))), (6, .int (nI ((pm_bo S x q k) + 0))), (9, .int (nI 0)), (0, .ref (L 0 0)), (1, .int (nI x)), (5, .int (nI q)), (8, .int (nI k))]) hx hb dL_areEditors_241 hl (by decide) rfl (fun ls hl => ?_)
                                refine kx_iinc (a := k) (lv' := [(8, .int (nI (k + 1))), (7, .int (nI ((pm_sa S x q k) + 0))), (6, .int (nI ((pm_bo S x q k) + 0))), (9, .int (nI 0)), (0, .ref (L 0 0)), (1, .int (nI x)), (5, .int (nI q))]) hx hb dL_areEditors_243 hl (k := 6) rfl (by decide) rfl (fun ls hl => ?_)
                                refine lv_goto (tgt := 160) hx hb dL_areEditors_246 (by decide) ?_
                                have q234 : (nI (pm_bo S x q (k + 1)) : Int32) = nI ((pm_bo S x q k) + 0) := (congrArg nI (by first | exact pm_num_p (decide_eq_true (by omega)) | exact pm_num_n (decide_eq_false (by omega))))
                                have q235 : (nI (pm_sa S x q (k + 1)) : Int32) = nI ((pm_sa S x q k) + 0) := (congrArg nI (by first | exact pm_num_p (decide_eq_true (by omega)) | exact pm_num_n (decide_eq_false (by omega))))
                                exact ih154 (k + 1) ls (by omega) (by omega) (by rw [q234, q235]; exact lv_sub hl [4, 5, 6, 2, 1, 0] rfl) 
                              · skip
                                refine lv_aload_n hx hb dL_areEditors_167 rfl (lv_at hl 0 rfl) ?_
                                refine lv_iload_n hx hb dL_areEditors_168 rfl (lv_at hl 1 rfl) ?_
                                refine lv_iload hx hb dL_areEditors_169 (lv_at hl 5 rfl) ?_
                                refine vp_callSi (W.runS (As := [.ref (L 0 0), .int (nI x), .int (nI k)]) (rest := []) ⟨hx, hb, hml, hown, hts⟩ (k_L_mark l D y L S Bs pi kn Gs sv U x k hI (by omega) (by omega)) (va_cwS 3 hts gL_areEditors_L_mark rfl rfl rfl hd_L_mark ⟨Nat.le_of_ble_eq_true rfl, Nat.le_of_ble_eq_true rfl⟩) ⟨pm_ro_blind, pm_ro_pre hP hK⟩ rfl rfl hl.1 rfl (lv_room (Nat.le_of_ble_eq_true rfl)) dL_areEditors_171 ⟨Nat.le_of_ble_eq_true rfl, Nat.le_of_ble_eq_true rfl⟩) (fun r236 h237 => ?_)
                                obtain rfl : r236 = nI 2 := h237.trans (congrArg nI hm)
                                refine lv_if_le (tgt := 192) hx hb dL_areEditors_174 (by decide) (fun c238 => absurd c238 (by decide)) (fun _ => ?_)
                                refine lv_aload_n hx hb dL_areEditors_177 rfl (lv_at hl 0 rfl) ?_
                                refine lv_iload hx hb dL_areEditors_178 (lv_at hl 2 rfl) ?_
                                refine lv_iload hx hb dL_areEditors_180 (lv_at hl 5 rfl) ?_
                                refine vp_callSi (W.runS (As := [.ref (L 0 0), .int (nI q), .int (nI k)]) (rest := []) ⟨hx, hb, hml, hown, hts⟩ (k_L_mark l D y L S Bs pi kn Gs sv U q k hI (by omega) (by omega)) (va_cwS 3 hts gL_areEditors_L_mark rfl rfl rfl hd_L_mark ⟨Nat.le_of_ble_eq_true rfl, Nat.le_of_ble_eq_true rfl⟩) ⟨pm_ro_blind, pm_ro_pre hP hK⟩ rfl rfl hl.1 rfl (lv_room (Nat.le_of_ble_eq_true rfl)) dL_areEditors_182 ⟨Nat.le_of_ble_eq_true rfl, Nat.le_of_ble_eq_true rfl⟩) (fun r239 h240 => ?_)
                                obtain rfl : r239 = nI 1 := h240.trans (congrArg nI hn)
                                refine lv_if_le (tgt := 192) hx hb dL_areEditors_185 (by decide) (fun c241 => absurd c241 (by decide)) (fun _ => ?_)
                                refine lv_iconst (v := nI 1) hx hb dL_areEditors_188 (by decide) ?_
                                refine lv_goto (tgt := 193) hx hb dL_areEditors_189 (by decide) ?_
                                refine lv_istore (lv' := [(9, .int (nI 1)), (0, .ref (L 0 0)), (1, .int (nI x)), (5, .int (nI q)), (6, .int (nI (pm_bo S x q k))), (7, .int (nI (pm_sa S x q k))), (8, .int (nI k))]) hx hb dL_areEditors_193 hl (by decide) rfl (fun ls hl => ?_)
                                refine lv_iload hx hb dL_areEditors_195 (lv_at hl 4 rfl) ?_
                                refine lv_iload hx hb dL_areEditors_197 (lv_at hl 0 rfl) ?_
                                refine lv_if_eq (tgt := 206) hx hb dL_areEditors_199 (by decide) (fun c242 => absurd c242 (by decide)) (fun _ => ?_)
                                refine lv_iconst (v := nI 1) hx hb dL_areEditors_202 (by decide) ?_
                                refine lv_goto (tgt := 207) hx hb dL_areEditors_203 (by decide) ?_
                                refine kx_iadd hx hb dL_areEditors_207 ?_
                                refine lv_istore (lv' := [(6, .int (nI ((pm_bo S x q k) + 1))), (9, .int (nI 1)), (0, .ref (L 0 0)), (1, .int (nI x)), (5, .int (nI q)), (7, .int (nI (pm_sa S x q k))), (8, .int (nI k))]) hx hb dL_areEditors_208 hl (by decide) rfl (fun ls hl => ?_)
                                refine lv_iload hx hb dL_areEditors_210 (lv_at hl 5 rfl) ?_
                                refine lv_iload hx hb dL_areEditors_212 (lv_at hl 1 rfl) ?_
                                refine lv_if_eq (tgt := 239) hx hb dL_areEditors_214 (by decide) (fun c243 => absurd c243 (by decide)) (fun _ => ?_)
                                refine lv_aload_n hx hb dL_areEditors_217 rfl (lv_at hl 2 rfl) ?_
                                refine lv_iload_n hx hb dL_areEditors_218 rfl (lv_at hl 3 rfl) ?_
                                refine lv_iload hx hb dL_areEditors_219 (lv_at hl 6 rfl) ?_
                                refine vp_callSi (W.runS (As := [.ref (L 0 0), .int (nI x), .int (nI k)]) (rest := [.int (nI (pm_sa S x q k))]) ⟨hx, hb, hml, hown, hts⟩ (k_L_mark l D y L S Bs pi kn Gs sv U x k hI (by omega) (by omega)) (va_cwS 3 hts gL_areEditors_L_mark rfl rfl rfl hd_L_mark ⟨Nat.le_of_ble_eq_true rfl, Nat.le_of_ble_eq_true rfl⟩) ⟨pm_ro_blind, pm_ro_pre hP hK⟩ rfl rfl hl.1 rfl (lv_room (Nat.le_of_ble_eq_true rfl)) dL_areEditors_221 ⟨Nat.le_of_ble_eq_true rfl, Nat.le_of_ble_eq_true rfl⟩) (fun r244 h245 => ?_)
                                obtain rfl : r244 = nI 2 := h245.trans (congrArg nI hm)
                                refine lv_aload_n hx hb dL_areEditors_224 rfl (lv_at hl 2 rfl) ?_
                                refine lv_iload hx hb dL_areEditors_225 (lv_at hl 4 rfl) ?_
                                refine lv_iload hx hb dL_areEditors_227 (lv_at hl 6 rfl) ?_
                                refine vp_callSi (W.runS (As := [.ref (L 0 0), .int (nI q), .int (nI k)]) (rest := [.int (nI 2), .int (nI (pm_sa S x q k))]) ⟨hx, hb, hml, hown, hts⟩ (k_L_mark l D y L S Bs pi kn Gs sv U q k hI (by omega) (by omega)) (va_cwS 3 hts gL_areEditors_L_mark rfl rfl rfl hd_L_mark ⟨Nat.le_of_ble_eq_true rfl, Nat.le_of_ble_eq_true rfl⟩) ⟨pm_ro_blind, pm_ro_pre hP hK⟩ rfl rfl hl.1 rfl (lv_room (Nat.le_of_ble_eq_true rfl)) dL_areEditors_229 ⟨Nat.le_of_ble_eq_true rfl, Nat.le_of_ble_eq_true rfl⟩) (fun r246 h247 => ?_)
                                obtain rfl : r246 = nI 1 := h247.trans (congrArg nI hn)
                                refine lv_icmp_ne (tgt := 239) hx hb dL_areEditors_232 (by decide) (fun _ => ?_) (fun c248 => absurd c248 (by decide))
                                refine lv_iconst (v := nI 0) hx hb dL_areEditors_239 (by decide) ?_
                                refine kx_iadd hx hb dL_areEditors_240 ?_
                                refine lv_istore (lv' := [(7, .int (nI ((pm_sa S x q k) + 0))), (6, .int (nI ((pm_bo S x q k) + 1))), (9, .int (nI 1)), (0, .ref (L 0 0)), (1, .int (nI x)), (5, .int (nI q)), (8, .int (nI k))]) hx hb dL_areEditors_241 hl (by decide) rfl (fun ls hl => ?_)
                                refine kx_iinc (a := k) (lv' := [(8, .int (nI (k + 1))), (7, .int (nI ((pm_sa S x q k) + 0))), (6, .int (nI ((pm_bo S x q k) + 1))), (9, .int (nI 1)), (0, .ref (L 0 0)), (1, .int (nI x)), (5, .int (nI q))]) hx hb dL_areEditors_243 hl (k := 6) rfl (by decide) rfl (fun ls hl => ?_)
                                refine lv_goto (tgt := 160) hx hb dL_areEditors_246 (by decide) ?_
                                have q249 : (nI (pm_bo S x q (k + 1)) : Int32) = nI ((pm_bo S x q k) + 1) := (congrArg nI (by first | exact pm_num_p (decide_eq_true (by omega)) | exact pm_num_n (decide_eq_false (by omega))))
                                have q250 : (nI (pm_sa S x q (k + 1)) : Int32) = nI ((pm_sa S x q k) + 0) := (congrArg nI (by first | exact pm_num_p (decide_eq_true (by omega)) | exact pm_num_n (decide_eq_false (by omega))))
                                exact ih154 (k + 1) ls (by omega) (by omega) (by rw [q249, q250]; exact lv_sub hl [4, 5, 6, 2, 1, 0] rfl) 
                              · skip
                                refine lv_aload_n hx hb dL_areEditors_167 rfl (lv_at hl 0 rfl) ?_
                                refine lv_iload_n hx hb dL_areEditors_168 rfl (lv_at hl 1 rfl) ?_
                                refine lv_iload hx hb dL_areEditors_169 (lv_at hl 5 rfl) ?_
                                refine vp_callSi (W.runS (As := [.ref (L 0 0), .int (nI x), .int (nI k)]) (rest := []) ⟨hx, hb, hml, hown, hts⟩ (k_L_mark l D y L S Bs pi kn Gs sv U x k hI (by omega) (by omega)) (va_cwS 3 hts gL_areEditors_L_mark rfl rfl rfl hd_L_mark ⟨Nat.le_of_ble_eq_true rfl, Nat.le_of_ble_eq_true rfl⟩) ⟨pm_ro_blind, pm_ro_pre hP hK⟩ rfl rfl hl.1 rfl (lv_room (Nat.le_of_ble_eq_true rfl)) dL_areEditors_171 ⟨Nat.le_of_ble_eq_true rfl, Nat.le_of_ble_eq_true rfl⟩) (fun r251 h252 => ?_)
                                obtain rfl : r251 = nI 2 := h252.trans (congrArg nI hm)
                                refine lv_if_le (tgt := 192) hx hb dL_areEditors_174 (by decide) (fun c253 => absurd c253 (by decide)) (fun _ => ?_)
                                refine lv_aload_n hx hb dL_areEditors_177 rfl (lv_at hl 0 rfl) ?_
                                refine lv_iload hx hb dL_areEditors_178 (lv_at hl 2 rfl) ?_
                                refine lv_iload hx hb dL_areEditors_180 (lv_at hl 5 rfl) ?_
                                refine vp_callSi (W.runS (As := [.ref (L 0 0), .int (nI q), .int (nI k)]) (rest := []) ⟨hx, hb, hml, hown, hts⟩ (k_L_mark l D y L S Bs pi kn Gs sv U q k hI (by omega) (by omega)) (va_cwS 3 hts gL_areEditors_L_mark rfl rfl rfl hd_L_mark ⟨Nat.le_of_ble_eq_true rfl, Nat.le_of_ble_eq_true rfl⟩) ⟨pm_ro_blind, pm_ro_pre hP hK⟩ rfl rfl hl.1 rfl (lv_room (Nat.le_of_ble_eq_true rfl)) dL_areEditors_182 ⟨Nat.le_of_ble_eq_true rfl, Nat.le_of_ble_eq_true rfl⟩) (fun r254 h255 => ?_)
                                obtain rfl : r254 = nI 2 := h255.trans (congrArg nI hn)
                                refine lv_if_le (tgt := 192) hx hb dL_areEditors_185 (by decide) (fun c256 => absurd c256 (by decide)) (fun _ => ?_)
                                refine lv_iconst (v := nI 1) hx hb dL_areEditors_188 (by decide) ?_
                                refine lv_goto (tgt := 193) hx hb dL_areEditors_189 (by decide) ?_
                                refine lv_istore (lv' := [(9, .int (nI 1)), (0, .ref (L 0 0)), (1, .int (nI x)), (5, .int (nI q)), (6, .int (nI (pm_bo S x q k))), (7, .int (nI (pm_sa S x q k))), (8, .int (nI k))]) hx hb dL_areEditors_193 hl (by decide) rfl (fun ls hl => ?_)
                                refine lv_iload hx hb dL_areEditors_195 (lv_at hl 4 rfl) ?_
                                refine lv_iload hx hb dL_areEditors_197 (lv_at hl 0 rfl) ?_
                                refine lv_if_eq (tgt := 206) hx hb dL_areEditors_199 (by decide) (fun c257 => absurd c257 (by decide)) (fun _ => ?_)
                                refine lv_iconst (v := nI 1) hx hb dL_areEditors_202 (by decide) ?_
                                refine lv_goto (tgt := 207) hx hb dL_areEditors_203 (by decide) ?_
                                refine kx_iadd hx hb dL_areEditors_207 ?_
                                refine lv_istore (lv' := [(6, .int (nI ((pm_bo S x q k) + 1))), (9, .int (nI 1)), (0, .ref (L 0 0)), (1, .int (nI x)), (5, .int (nI q)), (7, .int (nI (pm_sa S x q k))), (8, .int (nI k))]) hx hb dL_areEditors_208 hl (by decide) rfl (fun ls hl => ?_)
                                refine lv_iload hx hb dL_areEditors_210 (lv_at hl 5 rfl) ?_
                                refine lv_iload hx hb dL_areEditors_212 (lv_at hl 1 rfl) ?_
                                refine lv_if_eq (tgt := 239) hx hb dL_areEditors_214 (by decide) (fun c258 => absurd c258 (by decide)) (fun _ => ?_)
                                refine lv_aload_n hx hb dL_areEditors_217 rfl (lv_at hl 2 rfl) ?_
                                refine lv_iload_n hx hb dL_areEditors_218 rfl (lv_at hl 3 rfl) ?_
                                refine lv_iload hx hb dL_areEditors_219 (lv_at hl 6 rfl) ?_
                                refine vp_callSi (W.runS (As := [.ref (L 0 0), .int (nI x), .int (nI k)]) (rest := [.int (nI (pm_sa S x q k))]) ⟨hx, hb, hml, hown, hts⟩ (k_L_mark l D y L S Bs pi kn Gs sv U x k hI (by omega) (by omega)) (va_cwS 3 hts gL_areEditors_L_mark rfl rfl rfl hd_L_mark ⟨Nat.le_of_ble_eq_true rfl, Nat.le_of_ble_eq_true rfl⟩) ⟨pm_ro_blind, pm_ro_pre hP hK⟩ rfl rfl hl.1 rfl (lv_room (Nat.le_of_ble_eq_true rfl)) dL_areEditors_221 ⟨Nat.le_of_ble_eq_true rfl, Nat.le_of_ble_eq_true rfl⟩) (fun r259 h260 => ?_)
                                obtain rfl : r259 = nI 2 := h260.trans (congrArg nI hm)
                                refine lv_aload_n hx hb dL_areEditors_224 rfl (lv_at hl 2 rfl) ?_
                                refine lv_iload hx hb dL_areEditors_225 (lv_at hl 4 rfl) ?_
                                refine lv_iload hx hb dL_areEditors_227 (lv_at hl 6 rfl) ?_
                                refine vp_callSi (W.runS (As := [.ref (L 0 0), .int (nI q), .int (nI k)]) (rest := [.int (nI 2), .int (nI (pm_sa S x q k))]) ⟨hx, hb, hml, hown, hts⟩ (k_L_mark l D y L S Bs pi kn Gs sv U q k hI (by omega) (by omega)) (va_cwS 3 hts gL_areEditors_L_mark rfl rfl rfl hd_L_mark ⟨Nat.le_of_ble_eq_true rfl, Nat.le_of_ble_eq_true rfl⟩) ⟨pm_ro_blind, pm_ro_pre hP hK⟩ rfl rfl hl.1 rfl (lv_room (Nat.le_of_ble_eq_true rfl)) dL_areEditors_229 ⟨Nat.le_of_ble_eq_true rfl, Nat.le_of_ble_eq_true rfl⟩) (fun r261 h262 => ?_)
                                obtain rfl : r261 = nI 2 := h262.trans (congrArg nI hn)
                                refine lv_icmp_ne (tgt := 239) hx hb dL_areEditors_232 (by decide) (fun c263 => (c263 (by decide)).elim) (fun _ => ?_)
                                refine lv_iconst (v := nI 1) hx hb dL_areEditors_235 (by decide) ?_
                                refine lv_goto (tgt := 240) hx hb dL_areEditors_236 (by decide) ?_
                                refine kx_iadd hx hb dL_areEditors_240 ?_
                                refine lv_istore (lv' := [(7, .int (nI ((pm_sa S x q k) + 1))), (6, .int (nI ((pm_bo S x q k) + 1))), (9, .int (nI 1)), (0, .ref (L 0 0)), (1, .int (nI x)), (5, .int (nI q)), (8, .int (nI k))]) hx hb dL_areEditors_241 hl (by decide) rfl (fun ls hl => ?_)
                                refine kx_iinc (a := k) (lv' := [(8, .int (nI (k + 1))), (7, .int (nI ((pm_sa S x q k) + 1))), (6, .int (nI ((pm_bo S x q k) + 1))), (9, .int (nI 1)), (0, .ref (L 0 0)), (1, .int (nI x)), (5, .int (nI q))]) hx hb dL_areEditors_243 hl (k := 6) rfl (by decide) rfl (fun ls hl => ?_)
                                refine lv_goto (tgt := 160) hx hb dL_areEditors_246 (by decide) ?_
                                have q264 : (nI (pm_bo S x q (k + 1)) : Int32) = nI ((pm_bo S x q k) + 1) := (congrArg nI (by first | exact pm_num_p (decide_eq_true (by omega)) | exact pm_num_n (decide_eq_false (by omega))))
                                have q265 : (nI (pm_sa S x q (k + 1)) : Int32) = nI ((pm_sa S x q k) + 1) := (congrArg nI (by first | exact pm_num_p (decide_eq_true (by omega)) | exact pm_num_n (decide_eq_false (by omega))))
                                exact ih154 (k + 1) ls (by omega) (by omega) (by rw [q264, q265]; exact lv_sub hl [4, 5, 6, 2, 1, 0] rfl) 
                      exact LOOP160 (30 + 1) 0 ls (by omega) (by omega) (lv_sub hl [3, 4, 5, 2, 1, 0] rfl) 
                exact LOOP145 (3 + 1) 0 ls (by omega) (by omega) (lv_sub hl [2, 3, 0] rfl) 
            · skip
              have hmk := pm_mk3 (hI.1.okm k (by omega)) (show x < 3 by omega)
              rcases (show pm_mk (S 4 k) x = 0 ∨ pm_mk (S 4 k) x = 1 ∨ pm_mk (S 4 k) x = 2 by omega) with hm | hm | hm
              · skip
                refine lv_iload_n hx hb dL_areEditors_21 rfl (lv_at hl 2 rfl) ?_
                refine lv_aload_n hx hb dL_areEditors_22 rfl (lv_at hl 0 rfl) ?_
                refine lv_iload_n hx hb dL_areEditors_23 rfl (lv_at hl 1 rfl) ?_
                refine lv_iload hx hb dL_areEditors_24 (lv_at hl 4 rfl) ?_
                refine vp_callSi (W.runS (As := [.ref (L 0 0), .int (nI x), .int (nI k)]) (rest := [.int (nI (pm_cnt S x 1 k))]) ⟨hx, hb, hml, hown, hts⟩ (k_L_mark l D y L S Bs pi kn Gs sv U x k hI (by omega) (by omega)) (va_cwS 3 hts gL_areEditors_L_mark rfl rfl rfl hd_L_mark ⟨Nat.le_of_ble_eq_true rfl, Nat.le_of_ble_eq_true rfl⟩) ⟨pm_ro_blind, pm_ro_pre hP hK⟩ rfl rfl hl.1 rfl (lv_room (Nat.le_of_ble_eq_true rfl)) dL_areEditors_26 ⟨Nat.le_of_ble_eq_true rfl, Nat.le_of_ble_eq_true rfl⟩) (fun r266 h267 => ?_)
                obtain rfl : r266 = nI 0 := h267.trans (congrArg nI hm)
                refine lv_iconst (v := nI 1) hx hb dL_areEditors_29 (by decide) ?_
                refine lv_icmp_ne (tgt := 37) hx hb dL_areEditors_30 (by decide) (fun _ => ?_) (fun c268 => absurd c268 (by decide))
                refine lv_iconst (v := nI 0) hx hb dL_areEditors_37 (by decide) ?_
                refine kx_iadd hx hb dL_areEditors_38 ?_
                refine lv_istore_n (lv' := [(2, .int (nI ((pm_cnt S x 1 k) + 0))), (0, .ref (L 0 0)), (1, .int (nI x)), (3, .int (nI (pm_cnt S x 2 k))), (4, .int (nI k))]) hx hb dL_areEditors_39 rfl hl (by decide) rfl (fun ls hl => ?_)
                refine lv_iload_n hx hb dL_areEditors_40 rfl (lv_at hl 3 rfl) ?_
                refine lv_aload_n hx hb dL_areEditors_41 rfl (lv_at hl 1 rfl) ?_
                refine lv_iload_n hx hb dL_areEditors_42 rfl (lv_at hl 2 rfl) ?_
                refine lv_iload hx hb dL_areEditors_43 (lv_at hl 4 rfl) ?_
                refine vp_callSi (W.runS (As := [.ref (L 0 0), .int (nI x), .int (nI k)]) (rest := [.int (nI (pm_cnt S x 2 k))]) ⟨hx, hb, hml, hown, hts⟩ (k_L_mark l D y L S Bs pi kn Gs sv U x k hI (by omega) (by omega)) (va_cwS 3 hts gL_areEditors_L_mark rfl rfl rfl hd_L_mark ⟨Nat.le_of_ble_eq_true rfl, Nat.le_of_ble_eq_true rfl⟩) ⟨pm_ro_blind, pm_ro_pre hP hK⟩ rfl rfl hl.1 rfl (lv_room (Nat.le_of_ble_eq_true rfl)) dL_areEditors_45 ⟨Nat.le_of_ble_eq_true rfl, Nat.le_of_ble_eq_true rfl⟩) (fun r269 h270 => ?_)
                obtain rfl : r269 = nI 0 := h270.trans (congrArg nI hm)
                refine lv_iconst (v := nI 2) hx hb dL_areEditors_48 (by decide) ?_
                refine lv_icmp_ne (tgt := 56) hx hb dL_areEditors_49 (by decide) (fun _ => ?_) (fun c271 => absurd c271 (by decide))
                refine lv_iconst (v := nI 0) hx hb dL_areEditors_56 (by decide) ?_
                refine kx_iadd hx hb dL_areEditors_57 ?_
                refine lv_istore_n (lv' := [(3, .int (nI ((pm_cnt S x 2 k) + 0))), (2, .int (nI ((pm_cnt S x 1 k) + 0))), (0, .ref (L 0 0)), (1, .int (nI x)), (4, .int (nI k))]) hx hb dL_areEditors_58 rfl hl (by decide) rfl (fun ls hl => ?_)
                refine kx_iinc (a := k) (lv' := [(4, .int (nI (k + 1))), (3, .int (nI ((pm_cnt S x 2 k) + 0))), (2, .int (nI ((pm_cnt S x 1 k) + 0))), (0, .ref (L 0 0)), (1, .int (nI x))]) hx hb dL_areEditors_59 hl (k := 4) rfl (by decide) rfl (fun ls hl => ?_)
                refine lv_goto (tgt := 14) hx hb dL_areEditors_62 (by decide) ?_
                have q272 : (nI (pm_cnt S x 1 (k + 1)) : Int32) = nI ((pm_cnt S x 1 k) + 0) := (congrArg nI (by first | exact pm_cnt_p hm | exact pm_cnt_n (by omega)))
                have q273 : (nI (pm_cnt S x 2 (k + 1)) : Int32) = nI ((pm_cnt S x 2 k) + 0) := (congrArg nI (by first | exact pm_cnt_p hm | exact pm_cnt_n (by omega)))
                exact ih3 (k + 1) ls (by omega) (by omega) (by rw [q272, q273]; exact lv_sub hl [3, 4, 2, 1, 0] rfl) 
              · skip
                refine lv_iload_n hx hb dL_areEditors_21 rfl (lv_at hl 2 rfl) ?_
                refine lv_aload_n hx hb dL_areEditors_22 rfl (lv_at hl 0 rfl) ?_
                refine lv_iload_n hx hb dL_areEditors_23 rfl (lv_at hl 1 rfl) ?_
                refine lv_iload hx hb dL_areEditors_24 (lv_at hl 4 rfl) ?_
                refine vp_callSi (W.runS (As := [.ref (L 0 0), .int (nI x), .int (nI k)]) (rest := [.int (nI (pm_cnt S x 1 k))]) ⟨hx, hb, hml, hown, hts⟩ (k_L_mark l D y L S Bs pi kn Gs sv U x k hI (by omega) (by omega)) (va_cwS 3 hts gL_areEditors_L_mark rfl rfl rfl hd_L_mark ⟨Nat.le_of_ble_eq_true rfl, Nat.le_of_ble_eq_true rfl⟩) ⟨pm_ro_blind, pm_ro_pre hP hK⟩ rfl rfl hl.1 rfl (lv_room (Nat.le_of_ble_eq_true rfl)) dL_areEditors_26 ⟨Nat.le_of_ble_eq_true rfl, Nat.le_of_ble_eq_true rfl⟩) (fun r274 h275 => ?_)
                obtain rfl : r274 = nI 1 := h275.trans (congrArg nI hm)
                refine lv_iconst (v := nI 1) hx hb dL_areEditors_29 (by decide) ?_
                refine lv_icmp_ne (tgt := 37) hx hb dL_areEditors_30 (by decide) (fun c276 => (c276 (by decide)).elim) (fun _ => ?_)
                refine lv_iconst (v := nI 1) hx hb dL_areEditors_33 (by decide) ?_
                refine lv_goto (tgt := 38) hx hb dL_areEditors_34 (by decide) ?_
                refine kx_iadd hx hb dL_areEditors_38 ?_
                refine lv_istore_n (lv' := [(2, .int (nI ((pm_cnt S x 1 k) + 1))), (0, .ref (L 0 0)), (1, .int (nI x)), (3, .int (nI (pm_cnt S x 2 k))), (4, .int (nI k))]) hx hb dL_areEditors_39 rfl hl (by decide) rfl (fun ls hl => ?_)
                refine lv_iload_n hx hb dL_areEditors_40 rfl (lv_at hl 3 rfl) ?_
                refine lv_aload_n hx hb dL_areEditors_41 rfl (lv_at hl 1 rfl) ?_
                refine lv_iload_n hx hb dL_areEditors_42 rfl (lv_at hl 2 rfl) ?_
                refine lv_iload hx hb dL_areEditors_43 (lv_at hl 4 rfl) ?_
                refine vp_callSi (W.runS (As := [.ref (L 0 0), .int (nI x), .int (nI k)]) (rest := [.int (nI (pm_cnt S x 2 k))]) ⟨hx, hb, hml, hown, hts⟩ (k_L_mark l D y L S Bs pi kn Gs sv U x k hI (by omega) (by omega)) (va_cwS 3 hts gL_areEditors_L_mark rfl rfl rfl hd_L_mark ⟨Nat.le_of_ble_eq_true rfl, Nat.le_of_ble_eq_true rfl⟩) ⟨pm_ro_blind, pm_ro_pre hP hK⟩ rfl rfl hl.1 rfl (lv_room (Nat.le_of_ble_eq_true rfl)) dL_areEditors_45 ⟨Nat.le_of_ble_eq_true rfl, Nat.le_of_ble_eq_true rfl⟩) (fun r277 h278 => ?_)
                obtain rfl : r277 = nI 1 := h278.trans (congrArg nI hm)
                refine lv_iconst (v := nI 2) hx hb dL_areEditors_48 (by decide) ?_
                refine lv_icmp_ne (tgt := 56) hx hb dL_areEditors_49 (by decide) (fun _ => ?_) (fun c279 => absurd c279 (by decide))
                refine lv_iconst (v := nI 0) hx hb dL_areEditors_56 (by decide) ?_
                refine kx_iadd hx hb dL_areEditors_57 ?_
                refine lv_istore_n (lv' := [(3, .int (nI ((pm_cnt S x 2 k) + 0))), (2, .int (nI ((pm_cnt S x 1 k) + 1))), (0, .ref (L 0 0)), (1, .int (nI x)), (4, .int (nI k))]) hx hb dL_areEditors_58 rfl hl (by decide) rfl (fun ls hl => ?_)
                refine kx_iinc (a := k) (lv' := [(4, .int (nI (k + 1))), (3, .int (nI ((pm_cnt S x 2 k) + 0))), (2, .int (nI ((pm_cnt S x 1 k) + 1))), (0, .ref (L 0 0)), (1, .int (nI x))]) hx hb dL_areEditors_59 hl (k := 4) rfl (by decide) rfl (fun ls hl => ?_)
                refine lv_goto (tgt := 14) hx hb dL_areEditors_62 (by decide) ?_
                have q280 : (nI (pm_cnt S x 1 (k + 1)) : Int32) = nI ((pm_cnt S x 1 k) + 1) := (congrArg nI (by first | exact pm_cnt_p hm | exact pm_cnt_n (by omega)))
                have q281 : (nI (pm_cnt S x 2 (k + 1)) : Int32) = nI ((pm_cnt S x 2 k) + 0) := (congrArg nI (by first | exact pm_cnt_p hm | exact pm_cnt_n (by omega)))
                exact ih3 (k + 1) ls (by omega) (by omega) (by rw [q280, q281]; exact lv_sub hl [3, 4, 2, 1, 0] rfl) 
              · skip
                refine lv_iload_n hx hb dL_areEditors_21 rfl (lv_at hl 2 rfl) ?_
                refine lv_aload_n hx hb dL_areEditors_22 rfl (lv_at hl 0 rfl) ?_
                refine lv_iload_n hx hb dL_areEditors_23 rfl (lv_at hl 1 rfl) ?_
                refine lv_iload hx hb dL_areEditors_24 (lv_at hl 4 rfl) ?_
                refine vp_callSi (W.runS (As := [.ref (L 0 0), .int (nI x), .int (nI k)]) (rest := [.int (nI (pm_cnt S x 1 k))]) ⟨hx, hb, hml, hown, hts⟩ (k_L_mark l D y L S Bs pi kn Gs sv U x k hI (by omega) (by omega)) (va_cwS 3 hts gL_areEditors_L_mark rfl rfl rfl hd_L_mark ⟨Nat.le_of_ble_eq_true rfl, Nat.le_of_ble_eq_true rfl⟩) ⟨pm_ro_blind, pm_ro_pre hP hK⟩ rfl rfl hl.1 rfl (lv_room (Nat.le_of_ble_eq_true rfl)) dL_areEditors_26 ⟨Nat.le_of_ble_eq_true rfl, Nat.le_of_ble_eq_true rfl⟩) (fun r282 h283 => ?_)
                obtain rfl : r282 = nI 2 := h283.trans (congrArg nI hm)
                refine lv_iconst (v := nI 1) hx hb dL_areEditors_29 (by decide) ?_
                refine lv_icmp_ne (tgt := 37) hx hb dL_areEditors_30 (by decide) (fun _ => ?_) (fun c284 => absurd c284 (by decide))
                refine lv_iconst (v := nI 0) hx hb dL_areEditors_37 (by decide) ?_
                refine kx_iadd hx hb dL_areEditors_38 ?_
                refine lv_istore_n (lv' := [(2, .int (nI ((pm_cnt S x 1 k) + 0))), (0, .ref (L 0 0)), (1, .int (nI x)), (3, .int (nI (pm_cnt S x 2 k))), (4, .int (nI k))]) hx hb dL_areEditors_39 rfl hl (by decide) rfl (fun ls hl => ?_)
                refine lv_iload_n hx hb dL_areEditors_40 rfl (lv_at hl 3 rfl) ?_
                refine lv_aload_n hx hb dL_areEditors_41 rfl (lv_at hl 1 rfl) ?_
                refine lv_iload_n hx hb dL_areEditors_42 rfl (lv_at hl 2 rfl) ?_
                refine lv_iload hx hb dL_areEditors_43 (lv_at hl 4 rfl) ?_
                refine vp_callSi (W.runS (As := [.ref (L 0 0), .int (nI x), .int (nI k)]) (rest := [.int (nI (pm_cnt S x 2 k))]) ⟨hx, hb, hml, hown, hts⟩ (k_L_mark l D y L S Bs pi kn Gs sv U x k hI (by omega) (by omega)) (va_cwS 3 hts gL_areEditors_L_mark rfl rfl rfl hd_L_mark ⟨Nat.le_of_ble_eq_true rfl, Nat.le_of_ble_eq_true rfl⟩) ⟨pm_ro_blind, pm_ro_pre hP hK⟩ rfl rfl hl.1 rfl (lv_room (Nat.le_of_ble_eq_true rfl)) dL_areEditors_45 ⟨Nat.le_of_ble_eq_true rfl, Nat.le_of_ble_eq_true rfl⟩) (fun r285 h286 => ?_)
                obtain rfl : r285 = nI 2 := h286.trans (congrArg nI hm)
                refine lv_iconst (v := nI 2) hx hb dL_areEditors_48 (by decide) ?_
                refine lv_icmp_ne (tgt := 56) hx hb dL_areEditors_49 (by decide) (fun c287 => (c287 (by decide)).elim) (fun _ => ?_)
                refine lv_iconst (v := nI 1) hx hb dL_areEditors_52 (by decide) ?_
                refine lv_goto (tgt := 57) hx hb dL_areEditors_53 (by decide) ?_
                refine kx_iadd hx hb dL_areEditors_57 ?_
                refine lv_istore_n (lv' := [(3, .int (nI ((pm_cnt S x 2 k) + 1))), (2, .int (nI ((pm_cnt S x 1 k) + 0))), (0, .ref (L 0 0)), (1, .int (nI x)), (4, .int (nI k))]) hx hb dL_areEditors_58 rfl hl (by decide) rfl (fun ls hl => ?_)
                refine kx_iinc (a := k) (lv' := [(4, .int (nI (k + 1))), (3, .int (nI ((pm_cnt S x 2 k) + 1))), (2, .int (nI ((pm_cnt S x 1 k) + 0))), (0, .ref (L 0 0)), (1, .int (nI x))]) hx hb dL_areEditors_59 hl (k := 4) rfl (by decide) rfl (fun ls hl => ?_)
                refine lv_goto (tgt := 14) hx hb dL_areEditors_62 (by decide) ?_
                have q288 : (nI (pm_cnt S x 1 (k + 1)) : Int32) = nI ((pm_cnt S x 1 k) + 0) := (congrArg nI (by first | exact pm_cnt_p hm | exact pm_cnt_n (by omega)))
                have q289 : (nI (pm_cnt S x 2 (k + 1)) : Int32) = nI ((pm_cnt S x 2 k) + 1) := (congrArg nI (by first | exact pm_cnt_p hm | exact pm_cnt_n (by omega)))
                exact ih3 (k + 1) ls (by omega) (by omega) (by rw [q288, q289]; exact lv_sub hl [3, 4, 2, 1, 0] rfl) 
        exact LOOP14 (30 + 1) 0 ls (by omega) (by omega) (lv_sub hl [3, 4, 2, 1, 0] rfl) 
  exact LOOP2 (3 + 1) 0 ls (by omega) (by omega) (lv_sub hl [1, 0] rfl) 

/-! ===== the order of the chosen frames ===== -/
theorem pq_stp (g : Nat → Nat) (k : Nat) : ∀ n, g 0 ≤ k → k < g n → ∃ r, r < n ∧ g r ≤ k ∧ k < g (r + 1)
  | 0, h0, h => by omega
  | n + 1, h0, h => by
    by_cases h2 : k < g n
    · obtain ⟨r, a, b, d⟩ := pq_stp g k n h0 h2
      exact ⟨r, by omega, b, d⟩
    · exact ⟨n, by omega, by omega, h⟩
def pq_N (S : Nat → Nat → Nat) : Nat := pm_hm S 1 30 + pm_hm S 3 30
theorem pq_AN {S : Nat → Nat → Nat} (hI : pq_I S) : pm_A S 99 30 = pq_N S := by
  refine pm_num_add 30 (fun k hk => ⟨?_, ?_⟩)
  · have h1 := hI.1.chi k hk
    have h2 := hI.1.rnd
    simp only [decide_eq_true_eq, pm_pk_i]
    exact ⟨fun z => z.1, fun z => ⟨z, by omega⟩⟩
  · simp only [decide_eq_true_eq]
    omega
theorem pq_sel {S : Nat → Nat → Nat} (hI : pq_I S) {k : Nat} (hk : k < pq_N S) : ∃ f, f < 30 ∧ (S 0 f = 1 ∨ S 0 f = 3) ∧ pm_ahd S f = k := by
  rw [← pq_AN hI] at hk
  obtain ⟨r, hr, h1, h2⟩ := pq_stp (fun r => pm_A S r 30) k 99 (by show pm_A S 0 30 ≤ k; rw [pm_A0 hI.1]; exact Nat.zero_le _) hk
  have hab := pm_AB S r 30
  have h1 : pm_A S r 30 ≤ k := h1
  have h2 : k < pm_A S (r + 1) 30 := h2
  obtain ⟨f, hf, h3, h4⟩ := pq_stp (fun n => pm_B S r n) (k - pm_A S r 30) 30 (Nat.zero_le _) (by show k - pm_A S r 30 < pm_B S r 30; omega)
  have h3 : pm_B S r f ≤ k - pm_A S r 30 := h3
  have h4 : k - pm_A S r 30 < pm_B S r (f + 1) := h4
  by_cases hp : pm_pk S f = true ∧ S 3 f = r + 1
  · have e : pm_B S r (f + 1) = pm_B S r f + 1 := pm_num_p (decide_eq_true hp)
    exact ⟨f, hf, pm_pk_i.mp hp.1, by rw [pm_ahd_at hf hp.2]; omega⟩
  · have e : pm_B S r (f + 1) = pm_B S r f + 0 := pm_num_n (decide_eq_false hp)
    omega
theorem pq_ahdN {S : Nat → Nat → Nat} (hI : pq_I S) {f : Nat} (hf : f < 30) (pf : S 0 f = 1 ∨ S 0 f = 3) : pm_ahd S f < pq_N S := by
  rw [← pq_AN hI]
  have h1 := hI.1.chi f hf
  have h2 := hI.1.rnd
  refine pm_num_lt 30 hf (fun k hk z => ?_) (decide_eq_false (by rintro ⟨_, z | z⟩ <;> omega)) (decide_eq_true ⟨pm_pk_t pf, by omega⟩)
  have h3 := hI.1.chi k hk
  exact decide_eq_true ⟨(of_decide_eq_true z).1, by omega⟩
noncomputable def pq_sl (S : Nat → Nat → Nat) (k : Nat) : Nat := Classical.epsilon (fun f => f < 30 ∧ (S 0 f = 1 ∨ S 0 f = 3) ∧ pm_ahd S f = k)
theorem pq_sl_s {S : Nat → Nat → Nat} (hI : pq_I S) {k : Nat} (hk : k < pq_N S) : pq_sl S k < 30 ∧ (S 0 (pq_sl S k) = 1 ∨ S 0 (pq_sl S k) = 3) ∧ pm_ahd S (pq_sl S k) = k := Classical.epsilon_spec (pq_sel hI hk)
noncomputable def pq_ls (S : Nat → Nat → Nat) : Nat → Int32
  | 0 => -1
  | k + 1 => nI (100 * (S 3 (pq_sl S k) - 1) + pq_sl S k)
theorem pq_ch {S : Nat → Nat → Nat} (hI : pq_I S) {k : Nat} {r : Int32} (hk : k < pq_N S) (h : pm_isch S (nI k) r) : r = nI (pq_sl S k) := by
  obtain ⟨a, b, d⟩ := pq_sl_s hI hk
  exact pm_isch_u h (Or.inl ⟨pq_sl S k, a, b, by rw [d], rfl⟩)
theorem pq_N30 (S : Nat → Nat → Nat) : pq_N S ≤ 60 := by
  have h1 := pq_hm_le S 1 30
  have h2 := pq_hm_le S 3 30
  unfold pq_N
  omega
theorem pq_chN {S : Nat → Nat → Nat} (hI : pq_I S) {r : Int32} (h : pm_isch S (nI (pq_N S)) r) : r = -1 := by
  rcases h with ⟨f, hf, pf, z, -⟩ | ⟨-, z⟩
  · have h1 := pq_ahdN hI hf pf
    have h2 := pq_N30 S
    have h3 := (nI_eq (by omega) (by omega)).mp z
    omega
  · exact z
theorem pq_m1 {v : Nat} (h : v < 2 ^ 31) : (-1 : Int32) < nI v := by
  rw [Int32.lt_iff_toInt_lt, nI_toInt h]
  have : (-1 : Int32).toInt = -1 := by decide
  omega
theorem pq_lt {S : Nat → Nat → Nat} (hI : pq_I S) {k : Nat} (hk : k < pq_N S) : pq_ls S k < nI (100 * (S 3 (pq_sl S k) - 1) + pq_sl S k) := by
  obtain ⟨a, b, d⟩ := pq_sl_s hI hk
  have hc := hI.1.chi _ a
  have hr := hI.1.rnd
  cases k with
  | zero => exact pq_m1 (by omega)
  | succ k =>
    obtain ⟨a2, b2, d2⟩ := pq_sl_s hI (show k < pq_N S by omega)
    have hc2 := hI.1.chi _ a2
    have hp := hI.1.pick _ a b
    have hp2 := hI.1.pick _ a2 b2
    show nI (100 * (S 3 (pq_sl S k) - 1) + pq_sl S k) < _
    generalize pq_sl S k = g at *
    generalize pq_sl S (k + 1) = f at *
    refine nI_lt ?_ (by omega)
    by_cases hlt : S 3 f < S 3 g ∨ (S 3 f = S 3 g ∧ f < g)
    · have := pm_ahd_lt a (pm_pk_t b) hlt
      omega
    · by_cases he : f = g
      · subst he; omega
      · omega

set_option maxHeartbeats 4000000 in
set_option maxRecDepth 100000 in
theorem k_L_areChosen (l : Launch) (D : va_G) (y : Nat → ClassId) (L : Nat → Nat → Nat) (S : Nat → Nat → Nat) (Bs : Nat → Nat → Nat → Nat) (pi : Nat → Nat) (kn : Nat) (Gs : Nat → Nat → Nat → Nat) (sv : Nat → Nat) (U : pm_PT) (hI : pq_I S) : Met l yL_areChosen wsL_areChosen ({ frames := 4, cells := 0, slots := 0, locals := 86 } : Room) (pm_ron D (pm_ty y) [.ref (L 0 0)] (pm_cl y L S Bs pi kn Gs sv U)) (vp_Si (fun r : Int32 => r = nI 1)) 0 0 (fun _ => False) := by
  refine Met.ofW (cc := cL_areChosen) (maxL := 5) (ret := (some .boolean)) (by decide) rfl ?_
  intro p e s m args below meth c s₁ B hml hpre
  obtain ⟨rfl, ⟨hP, hK⟩, hN⟩ := hpre
  have hx := B.exec
  have hb := B.bytes
  have hr := B.returns
  have hts := atoms_spec (ws := wsL_areChosen) B.pre
  have hown : s.vm.findClass RL = some m.cls := findClass_of_methodNamed B.named
  have hlocks := B.notSynchronized
  have hin3 : ∀ w ∈ u_ws RX3 TX3 5, w ∈ wsL_areChosen := fun w h => List.mem_cons_of_mem _ (List.mem_append_left _ (List.mem_append_left _ (List.mem_append_left _ (List.mem_append_right _ h))))
  have hin1 : ∀ w ∈ u_ws RX1 TX1 8, w ∈ wsL_areChosen := fun w h => List.mem_cons_of_mem _ (List.mem_append_left _ (List.mem_append_left _ (List.mem_append_right _ h)))
  have hin0 : ∀ w ∈ u_ws RX0 TX0 2, w ∈ wsL_areChosen := fun w h => List.mem_cons_of_mem _ (List.mem_append_left _ (List.mem_append_right _ h))
  have hin2 : ∀ w ∈ u_ws RX2 TX2 15, w ∈ wsL_areChosen := fun w h => List.mem_cons_of_mem _ (List.mem_append_right _ h)
  have hP : va_P D vwCl (pm_cl y L S Bs pi kn Gs sv U) s.heap := hP
  have hl := lv_entry ([.ref (L 0 0)]) (n := 5) (Nat.le_of_ble_eq_true rfl)
  rw [lg_entry_eq]
  generalize (lg_sl ([.ref (L 0 0)]) ++ List.replicate (5 - (lg_sl ([.ref (L 0 0)])).length) Slot.unset).toArray = ls at hl ⊢
  have hl : lv_has ls 5 [(0, .ref (L 0 0))] := hl
  refine lv_aload_n hx hb dL_areChosen_0 rfl (lv_at hl 0 rfl) ?_
  refine lv_iconst (v := nI 2) hx hb dL_areChosen_1 (by decide) ?_
  refine vp_callSi (W.runV (As := [.int (nI 2)]) (rest := []) ⟨hx, hb, hml, hown, hts⟩ (k_X3_count l D y L S Bs pi kn Gs sv U Bs Gs (nI 2) hI.1) (cwV 1 hts gL_areChosen_X3_count rfl rfl rfl hd_X3_count ⟨Nat.le_of_ble_eq_true rfl, Nat.le_of_ble_eq_true rfl⟩) ⟨pm_ron_blind, va_recv hK hP (ci := 3) (q0 := 0) rfl rfl, pm_ron_pre hP hK hN⟩ rfl rfl hl.1 rfl (lv_room (Nat.le_of_ble_eq_true rfl)) dL_areChosen_2 ⟨Nat.le_of_ble_eq_true rfl, Nat.le_of_ble_eq_true rfl⟩) (fun r1 h2 => ?_)
  obtain rfl : r1 = nI (pm_hm S 1 30) := h2.trans (pq_co2)
  have := pq_hm_le S 1 30
  refine lv_aload_n hx hb dL_areChosen_5 rfl (lv_at hl 0 rfl) ?_
  refine lv_iconst (v := nI 4) hx hb dL_areChosen_6 (by decide) ?_
  refine vp_callSi (W.runV (As := [.int (nI 4)]) (rest := [.int (nI (pm_hm S 1 30))]) ⟨hx, hb, hml, hown, hts⟩ (k_X3_count l D y L S Bs pi kn Gs sv U Bs Gs (nI 4) hI.1) (cwV 1 hts gL_areChosen_X3_count rfl rfl rfl hd_X3_count ⟨Nat.le_of_ble_eq_true rfl, Nat.le_of_ble_eq_true rfl⟩) ⟨pm_ron_blind, va_recv hK hP (ci := 3) (q0 := 0) rfl rfl, pm_ron_pre hP hK hN⟩ rfl rfl hl.1 rfl (lv_room (Nat.le_of_ble_eq_true rfl)) dL_areChosen_7 ⟨Nat.le_of_ble_eq_true rfl, Nat.le_of_ble_eq_true rfl⟩) (fun r3 h4 => ?_)
  obtain rfl : r3 = nI (pm_hm S 3 30) := h4.trans (pq_co4)
  have := pq_hm_le S 3 30
  refine kx_iadd hx hb dL_areChosen_10 ?_
  refine lv_topi (fun x5 e6 => ?_)
  obtain rfl : x5 = nI (pq_N S) := e6.trans (rfl)
  have hNN := pq_N30 S
  refine lv_istore_n (lv' := [(1, .int (nI (pq_N S))), (0, .ref (L 0 0))]) hx hb dL_areChosen_11 rfl hl (by decide) rfl (fun ls hl => ?_)
  refine lv_iconst (v := -1) hx hb dL_areChosen_12 (by decide) ?_
  refine lv_istore_n (lv' := [(2, .int (-1)), (1, .int (nI (pq_N S))), (0, .ref (L 0 0))]) hx hb dL_areChosen_13 rfl hl (by decide) rfl (fun ls hl => ?_)
  refine lv_iconst (v := nI 0) hx hb dL_areChosen_14 (by decide) ?_
  refine lv_istore_n (lv' := [(3, .int (nI 0)), (2, .int (-1)), (1, .int (nI (pq_N S))), (0, .ref (L 0 0))]) hx hb dL_areChosen_15 rfl hl (by decide) rfl (fun ls hl => ?_)
  have LOOP16 : ∀ (n k : Nat) (ls : Array Slot), k ≤ (pq_N S) → (pq_N S) - k < n → lv_has ls 5 [(0, .ref (L 0 0)), (1, .int (nI (pq_N S))), (2, .int (pq_ls S k)), (3, .int (nI k))] → W p l e (headSpec wsL_areChosen ({ frames := 4, cells := 0, slots := 0, locals := 86 } : Room)).room s m ([.ref (L 0 0)] : List Value).toArray below meth c s.heap [] 0 0 (MQ below (vp_Si (fun r : Int32 => r = nI 1)) ([.ref (L 0 0)] : List Value).toArray s 0 0 (fun _ => False)) (F0 m 16 ls []) := by
    intro n
    induction n with
    | zero => intro k _ hi hn; omega
    | succ n ih7 =>
      intro k ls hi_k hn_k hl 
      refine lv_iload_n hx hb dL_areChosen_16 rfl (lv_at hl 3 rfl) ?_
      refine lv_iload_n hx hb dL_areChosen_17 rfl (lv_at hl 1 rfl) ?_
      refine kx_icmp_ge (tgt := 94) hx hb (by omega) (by omega) dL_areChosen_18 (by decide) (fun c8 => ?_) (fun c8 => ?_)
      · skip
        refine lv_aload_n hx hb dL_areChosen_94 rfl (lv_at hl 0 rfl) ?_
        refine lv_iload_n hx hb dL_areChosen_95 rfl (lv_at hl 1 rfl) ?_
        refine vp_callSi (W.runV (As := [.int (nI (pq_N S))]) (rest := []) ⟨hx, hb, hml, hown, hts⟩ (k_X3_chosen l D y L S Bs pi kn Gs sv U Bs Gs (nI (pq_N S)) hI.1) (cwV 1 hts gL_areChosen_X3_chosen rfl rfl rfl hd_X3_chosen ⟨Nat.le_of_ble_eq_true rfl, Nat.le_of_ble_eq_true rfl⟩) ⟨pm_ro_blind, va_recv hK hP (ci := 3) (q0 := 0) rfl rfl, pm_ro_pre hP hK⟩ rfl rfl hl.1 rfl (lv_room (Nat.le_of_ble_eq_true rfl)) dL_areChosen_96 ⟨Nat.le_of_ble_eq_true rfl, Nat.le_of_ble_eq_true rfl⟩) (fun r9 h10 => ?_)
        obtain rfl : r9 = -1 := pq_chN hI h10
        refine lv_iconst (v := -1) hx hb dL_areChosen_99 (by decide) ?_
        refine lv_icmp_ne (tgt := 107) hx hb dL_areChosen_100 (by decide) (fun c11 => (c11 (by decide)).elim) (fun _ => ?_)
        refine lv_iconst (v := nI 1) hx hb dL_areChosen_103 (by decide) ?_
        refine lv_goto (tgt := 108) hx hb dL_areChosen_104 (by decide) ?_
        exact W.zret (ty := .boolean) hx hb hr rfl (fun t ht _ => ⟨_, rfl, rfl, ht⟩) (fun _ h => absurd h List.not_mem_nil) dL_areChosen_108
      · skip
        obtain ⟨hf, hp, hah⟩ := pq_sl_s hI (k := k) (by omega)
        have hpk := hI.1.pick _ hf hp
        have hchi := hI.1.chi _ hf
        have hrnd := hI.1.rnd
        refine lv_aload_n hx hb dL_areChosen_21 rfl (lv_at hl 0 rfl) ?_
        refine lv_iload_n hx hb dL_areChosen_22 rfl (lv_at hl 3 rfl) ?_
        refine vp_callSi (W.runV (As := [.int (nI k)]) (rest := []) ⟨hx, hb, hml, hown, hts⟩ (k_X3_chosen l D y L S Bs pi kn Gs sv U Bs Gs (nI k) hI.1) (cwV 1 hts gL_areChosen_X3_chosen rfl rfl rfl hd_X3_chosen ⟨Nat.le_of_ble_eq_true rfl, Nat.le_of_ble_eq_true rfl⟩) ⟨pm_ro_blind, va_recv hK hP (ci := 3) (q0 := 0) rfl rfl, pm_ro_pre hP hK⟩ rfl rfl hl.1 rfl (lv_room (Nat.le_of_ble_eq_true rfl)) dL_areChosen_23 ⟨Nat.le_of_ble_eq_true rfl, Nat.le_of_ble_eq_true rfl⟩) (fun r12 h13 => ?_)
        obtain rfl : r12 = nI (pq_sl S k) := pq_ch hI (by omega) h13
        refine lv_istore (lv' := [(4, .int (nI (pq_sl S k))), (0, .ref (L 0 0)), (1, .int (nI (pq_N S))), (2, .int (pq_ls S k)), (3, .int (nI k))]) hx hb dL_areChosen_26 hl (by decide) rfl (fun ls hl => ?_)
        refine lv_iload hx hb dL_areChosen_28 (lv_at hl 0 rfl) ?_
        refine kx_if_lt (tgt := 72) hx hb (by omega) dL_areChosen_30 (by decide) ?_
        refine lv_aload_n hx hb dL_areChosen_33 rfl (lv_at hl 1 rfl) ?_
        refine lv_iload hx hb dL_areChosen_34 (lv_at hl 0 rfl) ?_
        refine lv_iconst (v := nI 0) hx hb dL_areChosen_36 (by decide) ?_
        refine vp_callSi (W.runV (As := [.int (nI (pq_sl S k)), .int (nI 0)]) (rest := []) ⟨hx, hb, hml, hown, hts⟩ (k_X3_of l D y L S Bs pi kn Gs sv U Bs Gs (nI (pq_sl S k)) (nI 0) hI.1) (cwV 2 hts gL_areChosen_X3_of rfl rfl rfl hd_X3_of ⟨Nat.le_of_ble_eq_true rfl, Nat.le_of_ble_eq_true rfl⟩) ⟨pm_ro_blind, va_recv hK hP (ci := 3) (q0 := 0) rfl rfl, pm_ro_pre hP hK⟩ rfl rfl hl.1 rfl (lv_room (Nat.le_of_ble_eq_true rfl)) dL_areChosen_37 ⟨Nat.le_of_ble_eq_true rfl, Nat.le_of_ble_eq_true rfl⟩) (fun r14 h15 => ?_)
        obtain rfl : r14 = nI (S 0 (pq_sl S k)) := h15.trans (pq_of0 (by omega))
        have := hI.1.how (pq_sl S k) (by omega)
        refine lv_iconst (v := nI 1) hx hb dL_areChosen_40 (by decide) ?_
        refine kx_icmp_eq (tgt := 55) hx hb (by omega) (by decide) dL_areChosen_41 (by decide) (fun c16 => ?_) (fun c16 => ?_)
        · skip
          refine lv_bipush (v := nI 100) hx hb dL_areChosen_55 (by decide) ?_
          refine lv_aload_n hx hb dL_areChosen_57 rfl (lv_at hl 1 rfl) ?_
          refine lv_iload hx hb dL_areChosen_58 (lv_at hl 0 rfl) ?_
          refine lv_iconst (v := nI 5) hx hb dL_areChosen_60 (by decide) ?_
          refine vp_callSi (W.runV (As := [.int (nI (pq_sl S k)), .int (nI 5)]) (rest := [.int (nI 100)]) ⟨hx, hb, hml, hown, hts⟩ (k_X3_of l D y L S Bs pi kn Gs sv U Bs Gs (nI (pq_sl S k)) (nI 5) hI.1) (cwV 2 hts gL_areChosen_X3_of rfl rfl rfl hd_X3_of ⟨Nat.le_of_ble_eq_true rfl, Nat.le_of_ble_eq_true rfl⟩) ⟨pm_ro_blind, va_recv hK hP (ci := 3) (q0 := 0) rfl rfl, pm_ro_pre hP hK⟩ rfl rfl hl.1 rfl (lv_room (Nat.le_of_ble_eq_true rfl)) dL_areChosen_61 ⟨Nat.le_of_ble_eq_true rfl, Nat.le_of_ble_eq_true rfl⟩) (fun r17 h18 => ?_)
          obtain rfl : r17 = pm_ci (S 3 (pq_sl S k)) := h18.trans (pq_of5 (by omega))
          have := hI.1.chi (pq_sl S k) (by omega)
          have := hI.1.rnd
          refine lv_topi (fun x19 e20 => ?_)
          obtain rfl : x19 = nI (S 3 (pq_sl S k) - 1) := e20.trans (pm_ci_p (by omega))
          refine kx_imul hx hb dL_areChosen_64 ?_
          refine lv_iload hx hb dL_areChosen_65 (lv_at hl 0 rfl) ?_
          refine kx_iadd hx hb dL_areChosen_67 ?_
          refine lv_iload_n hx hb dL_areChosen_68 rfl (lv_at hl 3 rfl) ?_
          refine lv_icmp_gt (tgt := 74) hx hb dL_areChosen_69 (by decide) (fun c21 => ?_) (fun c21 => by exfalso; exact c21 (pq_lt hI (k := k) (by omega)))
          refine lv_bipush (v := nI 100) hx hb dL_areChosen_74 (by decide) ?_
          refine lv_aload_n hx hb dL_areChosen_76 rfl (lv_at hl 1 rfl) ?_
          refine lv_iload hx hb dL_areChosen_77 (lv_at hl 0 rfl) ?_
          refine lv_iconst (v := nI 5) hx hb dL_areChosen_79 (by decide) ?_
          refine vp_callSi (W.runV (As := [.int (nI (pq_sl S k)), .int (nI 5)]) (rest := [.int (nI 100)]) ⟨hx, hb, hml, hown, hts⟩ (k_X3_of l D y L S Bs pi kn Gs sv U Bs Gs (nI (pq_sl S k)) (nI 5) hI.1) (cwV 2 hts gL_areChosen_X3_of rfl rfl rfl hd_X3_of ⟨Nat.le_of_ble_eq_true rfl, Nat.le_of_ble_eq_true rfl⟩) ⟨pm_ro_blind, va_recv hK hP (ci := 3) (q0 := 0) rfl rfl, pm_ro_pre hP hK⟩ rfl rfl hl.1 rfl (lv_room (Nat.le_of_ble_eq_true rfl)) dL_areChosen_80 ⟨Nat.le_of_ble_eq_true rfl, Nat.le_of_ble_eq_true rfl⟩) (fun r22 h23 => ?_)
          obtain rfl : r22 = pm_ci (S 3 (pq_sl S k)) := h23.trans (pq_of5 (by omega))
          have := hI.1.chi (pq_sl S k) (by omega)
          have := hI.1.rnd
          refine lv_topi (fun x24 e25 => ?_)
          obtain rfl : x24 = nI (S 3 (pq_sl S k) - 1) := e25.trans (pm_ci_p (by omega))
          refine kx_imul hx hb dL_areChosen_83 ?_
          refine lv_iload hx hb dL_areChosen_84 (lv_at hl 0 rfl) ?_
          refine kx_iadd hx hb dL_areChosen_86 ?_
          refine lv_istore_n (lv' := [(2, .int (nI ((100 * (S 3 (pq_sl S k) - 1)) + (pq_sl S k)))), (4, .int (nI (pq_sl S k))), (0, .ref (L 0 0)), (1, .int (nI (pq_N S))), (3, .int (nI k))]) hx hb dL_areChosen_87 rfl hl (by decide) rfl (fun ls hl => ?_)
          refine kx_iinc (a := k) (lv' := [(3, .int (nI (k + 1))), (2, .int (nI ((100 * (S 3 (pq_sl S k) - 1)) + (pq_sl S k)))), (4, .int (nI (pq_sl S k))), (0, .ref (L 0 0)), (1, .int (nI (pq_N S)))]) hx hb dL_areChosen_88 hl (k := 4) rfl (by decide) rfl (fun ls hl => ?_)
          refine lv_goto (tgt := 16) hx hb dL_areChosen_91 (by decide) ?_
          have q26 : (pq_ls S (k + 1) : Int32) = nI ((100 * (S 3 (pq_sl S k) - 1)) + (pq_sl S k)) := rfl
          exact ih7 (k + 1) ls (by omega) (by omega) (by rw [q26]; exact lv_sub hl [3, 4, 1, 0] rfl) 
        · skip
          refine lv_aload_n hx hb dL_areChosen_44 rfl (lv_at hl 1 rfl) ?_
          refine lv_iload hx hb dL_areChosen_45 (lv_at hl 0 rfl) ?_
          refine lv_iconst (v := nI 0) hx hb dL_areChosen_47 (by decide) ?_
          refine vp_callSi (W.runV (As := [.int (nI (pq_sl S k)), .int (nI 0)]) (rest := []) ⟨hx, hb, hml, hown, hts⟩ (k_X3_of l D y L S Bs pi kn Gs sv U Bs Gs (nI (pq_sl S k)) (nI 0) hI.1) (cwV 2 hts gL_areChosen_X3_of rfl rfl rfl hd_X3_of ⟨Nat.le_of_ble_eq_true rfl, Nat.le_of_ble_eq_true rfl⟩) ⟨pm_ro_blind, va_recv hK hP (ci := 3) (q0 := 0) rfl rfl, pm_ro_pre hP hK⟩ rfl rfl hl.1 rfl (lv_room (Nat.le_of_ble_eq_true rfl)) dL_areChosen_48 ⟨Nat.le_of_ble_eq_true rfl, Nat.le_of_ble_eq_true rfl⟩) (fun r27 h28 => ?_)
          obtain rfl : r27 = nI (S 0 (pq_sl S k)) := h28.trans (pq_of0 (by omega))
          have := hI.1.how (pq_sl S k) (by omega)
          refine lv_iconst (v := nI 3) hx hb dL_areChosen_51 (by decide) ?_
          refine kx_icmp_ne (tgt := 72) hx hb (by omega) (by decide) dL_areChosen_52 (by decide) (fun c29 => by exfalso; omega) (fun c29 => ?_)
          refine lv_bipush (v := nI 100) hx hb dL_areChosen_55 (by decide) ?_
          refine lv_aload_n hx hb dL_areChosen_57 rfl (lv_at hl 1 rfl) ?_
          refine lv_iload hx hb dL_areChosen_58 (lv_at hl 0 rfl) ?_
          refine lv_iconst (v := nI 5) hx hb dL_areChosen_60 (by decide) ?_
          refine vp_callSi (W.runV (As := [.int (nI (pq_sl S k)), .int (nI 5)]) (rest := [.int (nI 100)]) ⟨hx, hb, hml, hown, hts⟩ (k_X3_of l D y L S Bs pi kn Gs sv U Bs Gs (nI (pq_sl S k)) (nI 5) hI.1) (cwV 2 hts gL_areChosen_X3_of rfl rfl rfl hd_X3_of ⟨Nat.le_of_ble_eq_true rfl, Nat.le_of_ble_eq_true rfl⟩) ⟨pm_ro_blind, va_recv hK hP (ci := 3) (q0 := 0) rfl rfl, pm_ro_pre hP hK⟩ rfl rfl hl.1 rfl (lv_room (Nat.le_of_ble_eq_true rfl)) dL_areChosen_61 ⟨Nat.le_of_ble_eq_true rfl, Nat.le_of_ble_eq_true rfl⟩) (fun r30 h31 => ?_)
          obtain rfl : r30 = pm_ci (S 3 (pq_sl S k)) := h31.trans (pq_of5 (by omega))
          have := hI.1.chi (pq_sl S k) (by omega)
          have := hI.1.rnd
          refine lv_topi (fun x32 e33 => ?_)
          obtain rfl : x32 = nI (S 3 (pq_sl S k) - 1) := e33.trans (pm_ci_p (by omega))
          refine kx_imul hx hb dL_areChosen_64 ?_
          refine lv_iload hx hb dL_areChosen_65 (lv_at hl 0 rfl) ?_
          refine kx_iadd hx hb dL_areChosen_67 ?_
          refine lv_iload_n hx hb dL_areChosen_68 rfl (lv_at hl 3 rfl) ?_
          refine lv_icmp_gt (tgt := 74) hx hb dL_areChosen_69 (by decide) (fun c34 => ?_) (fun c34 => by exfalso; exact c34 (pq_lt hI (k := k) (by omega)))
          refine lv_bipush (v := nI 100) hx hb dL_areChosen_74 (by decide) ?_
          refine lv_aload_n hx hb dL_areChosen_76 rfl (lv_at hl 1 rfl) ?_
          refine lv_iload hx hb dL_areChosen_77 (lv_at hl 0 rfl) ?_
          refine lv_iconst (v := nI 5) hx hb dL_areChosen_79 (by decide) ?_
          refine vp_callSi (W.runV (As := [.int (nI (pq_sl S k)), .int (nI 5)]) (rest := [.int (nI 100)]) ⟨hx, hb, hml, hown, hts⟩ (k_X3_of l D y L S Bs pi kn Gs sv U Bs Gs (nI (pq_sl S k)) (nI 5) hI.1) (cwV 2 hts gL_areChosen_X3_of rfl rfl rfl hd_X3_of ⟨Nat.le_of_ble_eq_true rfl, Nat.le_of_ble_eq_true rfl⟩) ⟨pm_ro_blind, va_recv hK hP (ci := 3) (q0 := 0) rfl rfl, pm_ro_pre hP hK⟩ rfl rfl hl.1 rfl (lv_room (Nat.le_of_ble_eq_true rfl)) dL_areChosen_80 ⟨Nat.le_of_ble_eq_true rfl, Nat.le_of_ble_eq_true rfl⟩) (fun r35 h36 => ?_)
          obtain rfl : r35 = pm_ci (S 3 (pq_sl S k)) := h36.trans (pq_of5 (by omega))
          have := hI.1.chi (pq_sl S k) (by omega)
          have := hI.1.rnd
          refine lv_topi (fun x37 e38 => ?_)
          obtain rfl : x37 = nI (S 3 (pq_sl S k) - 1) := e38.trans (pm_ci_p (by omega))
          refine kx_imul hx hb dL_areChosen_83 ?_
          refine lv_iload hx hb dL_areChosen_84 (lv_at hl 0 rfl) ?_
          refine kx_iadd hx hb dL_areChosen_86 ?_
          refine lv_istore_n (lv' := [(2, .int (nI ((100 * (S 3 (pq_sl S k) - 1)) + (pq_sl S k)))), (4, .int (nI (pq_sl S k))), (0, .ref (L 0 0)), (1, .int (nI (pq_N S))), (3, .int (nI k))]) hx hb dL_areChosen_87 rfl hl (by decide) rfl (fun ls hl => ?_)
          refine kx_iinc (a := k) (lv' := [(3, .int (nI (k + 1))), (2, .int (nI ((100 * (S 3 (pq_sl S k) - 1)) + (pq_sl S k)))), (4, .int (nI (pq_sl S k))), (0, .ref (L 0 0)), (1, .int (nI (pq_N S)))]) hx hb dL_areChosen_88 hl (k := 4) rfl (by decide) rfl (fun ls hl => ?_)
          refine lv_goto (tgt := 16) hx hb dL_areChosen_91 (by decide) ?_
          have q39 : (pq_ls S (k + 1) : Int32) = nI ((100 * (S 3 (pq_sl S k) - 1)) + (pq_sl S k)) := rfl
          exact ih7 (k + 1) ls (by omega) (by omega) (by rw [q39]; exact lv_sub hl [3, 4, 1, 0] rfl) 
  exact LOOP16 ((pq_N S) + 1) 0 ls (by omega) (by omega) (lv_sub hl [3, 2, 1, 0] rfl) 
