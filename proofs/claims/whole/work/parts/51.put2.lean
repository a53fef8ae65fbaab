set_option maxHeartbeats 4000000 in
set_option maxRecDepth 100000 in
theorem k_X4_put (l : Launch) (D : va_G) (y : Nat → ClassId) (q : Nat → Nat) (S : Nat → Nat → Nat) (gp gs : Nat → Int32) (kn ln : Nat) (sv pd : Nat → Nat) (X : Nat) (hPI : pm_PI pd ln) (hX : X < 2 ^ 64) : Met l yX4_put wsX4_put ({ frames := 1, cells := 0, slots := 0, locals := 22 } : Room) (pm_wr D (pm_ty y) [.ref (q 0), .long (pm_L X)] (pm_mo y q S gp gs kn ln sv pd)) (pm_Qi D (fun (r : Int32) (_ : Unit) => r = (pm_aPut pd ln X).1) (fun (_ : Unit) => pm_mo y q S gp gs kn (pm_aPut pd ln X).2.2 sv (pm_aPut pd ln X).2.1) (pm_mo y q S gp gs kn ln sv pd)) 0 0 (pm_ad (pm_mo y q S gp gs kn ln sv pd)) := by
  refine Met.ofW (cc := cX4_put) (maxL := 8) (ret := (some .int)) (by decide) rfl ?_
  intro p e s m args below meth c s₁ B hml hpre
  obtain ⟨rfl, hP, hK, hD0⟩ := hpre
  have hx := B.exec
  have hb := B.bytes
  have hr := B.returns
  have hts := atoms_spec (ws := wsX4_put) B.pre
  have hown : s.vm.findClass RX4 = some m.cls := findClass_of_methodNamed B.named
  have hlocks := B.notSynchronized
  have hin4 : ∀ w ∈ u_ws RX4 TX4 7, w ∈ wsX4_put := fun w h => List.mem_cons_of_mem _ (List.mem_append_right _ h)
  have hD := pm_ad_self hD0
  have hS : va_S (pm_ad (pm_mo y q S gp gs kn ln sv pd)) s.heap s.heap [] := va_S.rf
  have hP : va_P D vwCl (pm_mo y q S gp gs kn ln sv pd) s.heap := hP
  have hl := lv_entry ([.ref (q 0), .long (pm_L X)]) (n := 8) (Nat.le_of_ble_eq_true rfl)
  rw [lg_entry_eq]
  generalize (lg_sl ([.ref (q 0), .long (pm_L X)]) ++ List.replicate (8 - (lg_sl ([.ref (q 0), .long (pm_L X)])).length) Slot.unset).toArray = ls at hl ⊢
  have hl : lv_has ls 8 [(0, .ref (q 0)), (1, .long (pm_L X))] := hl
  have hln := hPI.1
  refine lv_iconst (v := nI 0) hx hb dX4_put_0 (by decide) ?_
  refine lv_istore_n (lv' := [(3, .int (nI 0)), (0, .ref (q 0)), (1, .long (pm_L X))]) hx hb dX4_put_1 rfl hl (by decide) rfl (fun ls hl => ?_)
  refine lv_iconst (v := nI 1) hx hb dX4_put_2 (by decide) ?_
  refine lv_istore (lv' := [(4, .int (nI 1)), (3, .int (nI 0)), (0, .ref (q 0)), (1, .long (pm_L X))]) hx hb dX4_put_3 hl (by decide) rfl (fun ls hl => ?_)
  refine lv_iconst (v := nI 0) hx hb dX4_put_5 (by decide) ?_
  refine lv_istore (lv' := [(5, .int (nI 0)), (4, .int (nI 1)), (3, .int (nI 0)), (0, .ref (q 0)), (1, .long (pm_L X))]) hx hb dX4_put_6 hl (by decide) rfl (fun ls hl => ?_)
  refine lv_iconst (v := nI 0) hx hb dX4_put_8 (by decide) ?_
  refine lv_istore (lv' := [(6, .int (nI 0)), (5, .int (nI 0)), (4, .int (nI 1)), (3, .int (nI 0)), (0, .ref (q 0)), (1, .long (pm_L X))]) hx hb dX4_put_9 hl (by decide) rfl (fun ls hl => ?_)
  have LOOP11 : ∀ (n i : Nat) (ls : Array Slot), i ≤ 8 → 8 - i < n → lv_has ls 8 [(0, .ref (q 0)), (1, .long (pm_L X)), (3, .int (nI ((pm_ps X i).2.2))), (4, .int (nI ((pm_ps X i).2.1))), (5, .int (nI ((pm_ps X i).1))), (6, .int (nI i))] → W p l e (headSpec wsX4_put ({ frames := 1, cells := 0, slots := 0, locals := 22 } : Room)).room s m ([.ref (q 0), .long (pm_L X)] : List Value).toArray below meth c s.heap [] 0 0 (MQ below (pm_Qi D (fun (r : Int32) (_ : Unit) => r = (pm_aPut pd ln X).1) (fun (_ : Unit) => pm_mo y q S gp gs kn (pm_aPut pd ln X).2.2 sv (pm_aPut pd ln X).2.1) (pm_mo y q S gp gs kn ln sv pd)) ([.ref (q 0), .long (pm_L X)] : List Value).toArray s 0 0 (pm_ad (pm_mo y q S gp gs kn ln sv pd))) (F0 m 11 ls []) := by
    intro n
    induction n with
    | zero => intro i _ hi hn; omega
    | succ n ih1 =>
      intro i ls hi_i hn_i hl 
      have hle := pm_ps_le X i
      have hf := pm_ps_f X i
      refine lv_iload hx hb dX4_put_11 (lv_at hl 5 rfl) ?_
      refine lv_bipush (v := nI 8) hx hb dX4_put_13 (by decide) ?_
      refine kx_icmp_ge (tgt := 105) hx hb (by omega) (by decide) dX4_put_15 (by decide) (fun c2 => ?_) (fun c2 => ?_)
      · skip
        have e3 : i = 8 := by omega
        subst e3
        have hm := pm_ps_many hX
        refine lv_iload hx hb dX4_put_105 (lv_at hl 3 rfl) ?_
        refine kx_if_eq (tgt := 114) hx hb (by omega) dX4_put_107 (by decide) (fun c4 => ?_) (fun c4 => ?_)
        · skip
          refine lv_bipush (v := (-2)) hx hb dX4_put_114 (by decide) ?_
          have E : pm_aPut pd ln X = (-2, pd, ln) := if_pos (by rcases Nat.eq_zero_or_pos (pm_ps X 8).2.1 with z | z <;> first | exact hm.2 z | (have := hm.1 (by omega); omega))
          exact W.iret hx hb hr (fun t ht _ => ⟨⟨_, (), rfl, (by rw [E]), (by show va_P D vwCl (pm_mo y q S gp gs kn (pm_aPut pd ln X).2.2 sv (pm_aPut pd ln X).2.1) t.heap; rw [ht]; exact (by rw [E]; exact hP))⟩, hS.F ht⟩) hS.2.2 dX4_put_116
        · skip
          refine lv_iload_n hx hb dX4_put_110 rfl (lv_at hl 2 rfl) ?_
          refine kx_if_ne (tgt := 117) hx hb (by omega) dX4_put_111 (by decide) (fun c5 => ?_) (fun c5 => ?_)
          · skip
            have em : (pm_ps X 8).2.2 = pm_many X := hm.1 (by omega)
            rw [em] at hl
            have hm8 := (pm_many8 X).1
            refine lv_aload_n hx hb dX4_put_117 rfl (lv_at hl 0 rfl) ?_
            refine va_get (D := D) (ci := 4) (v := .int (nI ln)) (C := RX4) (T := TX4) (N := 7) hx hb hts hin4 hown hK hP 0 rfl rfl 6 (by decide) (hts (.fieldLink RX4 126 "ProofMarksModel" "length" "I") (List.mem_of_getElem? (i := 2) rfl)) (fun _ h9 => h9) rfl dX4_put_118 ?_
            refine lv_iload_n hx hb dX4_put_121 rfl (lv_at hl 2 rfl) ?_
            refine kx_iadd hx hb dX4_put_122 ?_
            refine lv_bipush (v := nI 80) hx hb dX4_put_123 (by decide) ?_
            refine kx_icmp_le (tgt := 131) hx hb (by omega) (by decide) dX4_put_125 (by decide) (fun c6 => ?_) (fun c6 => ?_)
            · skip
              refine lv_iload_n hx hb dX4_put_131 rfl (lv_at hl 2 rfl) ?_
              refine lv_iconst (v := nI 1) hx hb dX4_put_132 (by decide) ?_
              refine lv_isub hx hb dX4_put_133 ?_
              refine lv_istore (lv' := [(6, .int ((nI (pm_many X)) - (nI 1))), (0, .ref (q 0)), (1, .long (pm_L X)), (3, .int (nI (pm_many X))), (4, .int (nI ((pm_ps X 8).2.1))), (5, .int (nI ((pm_ps X 8).1)))]) hx hb dX4_put_134 hl (by decide) rfl (fun ls hl => ?_)
              have LOOP136 : ∀ (n k : Nat) (ls : Array Slot) (H : Heap) (locs : List Loc), va_P D vwCl (pm_mo y q S gp gs kn (ln + k) sv (pm_ap pd ln X (pm_many X) k)) H → va_D (pm_ad (pm_mo y q S gp gs kn ln sv pd)) (pm_mo y q S gp gs kn (ln + k) sv (pm_ap pd ln X (pm_many X) k)) → va_S (pm_ad (pm_mo y q S gp gs kn ln sv pd)) s.heap H locs → k ≤ pm_many X → pm_many X - k < n → lv_has ls 8 [(0, .ref (q 0)), (1, .long (pm_L X)), (6, .int (nI (pm_many X - k) - nI 1))] → W p l e (headSpec wsX4_put ({ frames := 1, cells := 0, slots := 0, locals := 22 } : Room)).room s m ([.ref (q 0), .long (pm_L X)] : List Value).toArray below meth c H locs 0 0 (MQ below (pm_Qi D (fun (r : Int32) (_ : Unit) => r = (pm_aPut pd ln X).1) (fun (_ : Unit) => pm_mo y q S gp gs kn (pm_aPut pd ln X).2.2 sv (pm_aPut pd ln X).2.1) (pm_mo y q S gp gs kn ln sv pd)) ([.ref (q 0), .long (pm_L X)] : List Value).toArray s 0 0 (pm_ad (pm_mo y q S gp gs kn ln sv pd))) (F0 m 136 ls []) := by
                intro n
                induction n with
                | zero => intro k _ _ _ _ _ _ hi hn; omega
                | succ n ih7 =>
                  intro k ls H locs  hP hD hS hi_k hn_k hl 
                  refine lv_iload hx hb dX4_put_136 (lv_at hl 2 rfl) ?_
                  refine lv_if_lt (tgt := 178) hx hb dX4_put_138 (by decide) (fun c8 => ?_) (fun c8 => ?_)
                  · replace c8 := (pm_dn (m := pm_many X - k) (by omega)).mp c8
                    refine lv_aload_n hx hb dX4_put_178 rfl (lv_at hl 0 rfl) ?_
                    refine va_get (D := D) (ci := 4) (v := .int (nI (ln + k))) (C := RX4) (T := TX4) (N := 7) hx hb hts hin4 hown hK hP 0 rfl rfl 6 (by decide) (hts (.fieldLink RX4 126 "ProofMarksModel" "length" "I") (List.mem_of_getElem? (i := 2) rfl)) (fun _ h9 => h9) rfl dX4_put_179 ?_
                    have e9 : k = pm_many X := by omega
                    rw [e9] at hP ⊢
                    have E : pm_aPut pd ln X = (nI (ln + pm_many X), pm_ap pd ln X (pm_many X) (pm_many X), ln + pm_many X) := by rw [pm_aPut, if_neg (by omega), if_neg (by omega)]
                    exact W.iret hx hb hr (fun t ht _ => ⟨⟨_, (), rfl, (by rw [E]), (by show va_P D vwCl (pm_mo y q S gp gs kn (pm_aPut pd ln X).2.2 sv (pm_aPut pd ln X).2.1) t.heap; rw [ht]; exact (by rw [E]; exact hP))⟩, hS.F ht⟩) hS.2.2 dX4_put_182
                  · replace c8 := mt (pm_dn (m := pm_many X - k) (by omega)).mpr c8
                    refine lv_aload_n hx hb dX4_put_141 rfl (lv_at hl 0 rfl) ?_
                    refine va_get (D := D) (ci := 4) (v := .ref (q 5)) (C := RX4) (T := TX4) (N := 7) hx hb hts hin4 hown hK hP 0 rfl rfl 5 (by decide) (hts (.fieldLink RX4 23 "ProofMarksModel" "pad" "[I") (List.mem_of_getElem? (i := 3) rfl)) (fun _ h9 => h9) rfl dX4_put_142 ?_
                    refine lv_aload_n hx hb dX4_put_145 rfl (lv_at hl 0 rfl) ?_
                    refine va_get (D := D) (ci := 4) (v := .int (nI (ln + k))) (C := RX4) (T := TX4) (N := 7) hx hb hts hin4 hown hK hP 0 rfl rfl 6 (by decide) (hts (.fieldLink RX4 126 "ProofMarksModel" "length" "I") (List.mem_of_getElem? (i := 2) rfl)) (fun _ h9 => h9) rfl dX4_put_146 ?_
                    refine lv_lload_n hx hb dX4_put_149 rfl (lv_at hl 1 rfl) ?_
                    refine lv_bipush (v := nI 8) hx hb dX4_put_150 (by decide) ?_
                    refine lv_iload hx hb dX4_put_152 (lv_at hl 2 rfl) ?_
                    refine lv_topi (fun x10 e11 => ?_)
                    obtain rfl : x10 = nI (pm_many X - k - 1) := e11.trans (pk_sub (by omega))
                    refine kx_imul hx hb dX4_put_154 ?_
                    refine lv_lshr (v := (pm_L X) >>> ((nI (8 * (pm_many X - k - 1))).toInt64 &&& 63)) hx hb dX4_put_155 rfl ?_
                    refine lv_ldc2 hx hb hown (hts (.constantLong RX4 135 (255)) (List.mem_of_getElem? (i := 1) rfl)) dX4_put_156 ?_
                    refine lv_land hx hb dX4_put_159 ?_
                    refine lv_l2i (v := nI (X / 256 ^ (pm_many X - k - 1) % 256)) hx hb dX4_put_160 (pm_bA (by omega)) ?_
                    have : X / 256 ^ (pm_many X - k - 1) % 256 < 256 := Nat.mod_lt _ (by decide)
                    refine kx_iast (ws' := pm_mo y q S gp gs kn (ln + k) sv (pm_ap pd ln X (pm_many X) (k + 1))) hx hb hK hP hD hS 5 0 rfl rfl (by omega) (by decide) (pm_ap_s pd ln X (pm_many X) k) rfl dX4_put_161 (fun H locs hP hD hS => ?_)
                    refine lv_aload_n hx hb dX4_put_162 rfl (lv_at hl 0 rfl) ?_
                    refine lv_dup hx hb dX4_put_163 rfl ?_
                    refine va_get (D := D) (ci := 4) (v := .int (nI (ln + k))) (C := RX4) (T := TX4) (N := 7) hx hb hts hin4 hown hK hP 0 rfl rfl 6 (by decide) (hts (.fieldLink RX4 126 "ProofMarksModel" "length" "I") (List.mem_of_getElem? (i := 2) rfl)) (fun _ h9 => h9) rfl dX4_put_164 ?_
                    refine lv_iconst (v := nI 1) hx hb dX4_put_167 (by decide) ?_
                    refine kx_iadd hx hb dX4_put_168 ?_
                    refine kx_put (D := D) (ci := 4) (v := .int (nI ((ln + k) + 1))) (ty := .int) (ws' := pm_mo y q S gp gs kn ((ln + k) + 1) sv (pm_ap pd ln X (pm_many X) (k + 1))) (C := RX4) (T := TX4) (N := 7) hx hb hts hin4 tyX4 tyX4_ok nmX4 hown hK hP hD hS 0 rfl rfl 6 (by decide) (hts (.fieldLink RX4 126 "ProofMarksModel" "length" "I") (List.mem_of_getElem? (i := 2) rfl)) (fun _ h9 => h9) rfl (by decide +kernel) rfl rfl (Nat.le_of_ble_eq_true rfl) rfl dX4_put_169 (fun H locs hP hD hS => ?_)
                    refine lv_iinc (v := ((nI (pm_many X - k) - nI 1) + -1)) (lv' := [(6, .int ((nI (pm_many X - k) - nI 1) + -1)), (0, .ref (q 0)), (1, .long (pm_L X))]) hx hb dX4_put_172 hl (k := 2) rfl rfl (by decide) rfl (fun ls hl => ?_)
                    refine lv_goto (tgt := 136) hx hb dX4_put_175 (by decide) ?_
                    have q12 : (nI (pm_many X - (k + 1)) - nI 1 : Int32) = (nI (pm_many X - k) - nI 1) + -1 := (pm_dnb _ _ (by omega))
                    exact ih7 (k + 1) ls H locs hP hD hS (by omega) (by omega) (by rw [q12]; exact lv_sub hl [1, 2, 0] rfl) 
              exact LOOP136 (pm_many X + 1) 0 ls _ _ (by rw [pm_ap_0]; exact hP) (by rw [pm_ap_0]; exact hD) hS (by omega) (by omega) (lv_sub hl [1, 2, 0] rfl) 
            · skip
              refine lv_bipush (v := (-4)) hx hb dX4_put_128 (by decide) ?_
              have E : pm_aPut pd ln X = (-4, pd, ln) := by rw [pm_aPut, if_neg (by omega), if_pos (by omega)]
              exact W.iret hx hb hr (fun t ht _ => ⟨⟨_, (), rfl, (by rw [E]), (by show va_P D vwCl (pm_mo y q S gp gs kn (pm_aPut pd ln X).2.2 sv (pm_aPut pd ln X).2.1) t.heap; rw [ht]; exact (by rw [E]; exact hP))⟩, hS.F ht⟩) hS.2.2 dX4_put_130
          · skip
            refine lv_bipush (v := (-2)) hx hb dX4_put_114 (by decide) ?_
            have E : pm_aPut pd ln X = (-2, pd, ln) := if_pos (by rcases Nat.eq_zero_or_pos (pm_ps X 8).2.1 with z | z <;> first | exact hm.2 z | (have := hm.1 (by omega); omega))
            exact W.iret hx hb hr (fun t ht _ => ⟨⟨_, (), rfl, (by rw [E]), (by show va_P D vwCl (pm_mo y q S gp gs kn (pm_aPut pd ln X).2.2 sv (pm_aPut pd ln X).2.1) t.heap; rw [ht]; exact (by rw [E]; exact hP))⟩, hS.F ht⟩) hS.2.2 dX4_put_116
      · skip
        refine lv_lload_n hx hb dX4_put_18 rfl (lv_at hl 1 rfl) ?_
        refine lv_bipush (v := nI 8) hx hb dX4_put_19 (by decide) ?_
        refine lv_iload hx hb dX4_put_21 (lv_at hl 5 rfl) ?_
        refine kx_imul hx hb dX4_put_23 ?_
        refine lv_lshr (v := (pm_L X) >>> ((nI (8 * i)).toInt64 &&& 63)) hx hb dX4_put_24 rfl ?_
        refine lv_ldc2 hx hb hown (hts (.constantLong RX4 135 (255)) (List.mem_of_getElem? (i := 1) rfl)) dX4_put_25 ?_
        refine lv_land hx hb dX4_put_28 ?_
        refine lv_l2i (v := nI (X / 256 ^ i % 256)) hx hb dX4_put_29 (pm_bA (by omega)) ?_
        have : X / 256 ^ i % 256 < 256 := Nat.mod_lt _ (by decide)
        refine lv_istore (lv' := [(7, .int (nI (X / 256 ^ i % 256))), (0, .ref (q 0)), (1, .long (pm_L X)), (3, .int (nI ((pm_ps X i).2.2))), (4, .int (nI ((pm_ps X i).2.1))), (5, .int (nI ((pm_ps X i).1))), (6, .int (nI i))]) hx hb dX4_put_30 hl (by decide) rfl (fun ls hl => ?_)
        refine lv_iload hx hb dX4_put_32 (lv_at hl 5 rfl) ?_
        refine kx_if_ne (tgt := 42) hx hb (by omega) dX4_put_34 (by decide) (fun c13 => ?_) (fun c13 => ?_)
        · skip
          refine lv_iconst (v := nI 1) hx hb dX4_put_42 (by decide) ?_
          refine lv_goto (tgt := 47) hx hb dX4_put_43 (by decide) ?_
          refine lv_istore (lv' := [(5, .int (nI 1)), (7, .int (nI (X / 256 ^ i % 256))), (0, .ref (q 0)), (1, .long (pm_L X)), (3, .int (nI ((pm_ps X i).2.2))), (4, .int (nI ((pm_ps X i).2.1))), (6, .int (nI i))]) hx hb dX4_put_47 hl (by decide) rfl (fun ls hl => ?_)
          refine lv_iload hx hb dX4_put_49 (lv_at hl 5 rfl) ?_
          refine kx_if_eq (tgt := 83) hx hb (by omega) dX4_put_51 (by decide) (fun c14 => ?_) (fun c14 => ?_)
          · skip
            refine lv_iconst (v := nI 0) hx hb dX4_put_83 (by decide) ?_
            refine lv_istore (lv' := [(4, .int (nI 0)), (5, .int (nI 1)), (7, .int (nI (X / 256 ^ i % 256))), (0, .ref (q 0)), (1, .long (pm_L X)), (3, .int (nI ((pm_ps X i).2.2))), (6, .int (nI i))]) hx hb dX4_put_84 hl (by decide) rfl (fun ls hl => ?_)
            refine lv_iload_n hx hb dX4_put_86 rfl (lv_at hl 5 rfl) ?_
            refine lv_iload hx hb dX4_put_87 (lv_at hl 1 rfl) ?_
            refine lv_if_eq (tgt := 96) hx hb dX4_put_89 (by decide) (fun c15 => absurd c15 (by decide)) (fun _ => ?_)
            refine lv_iconst (v := nI 0) hx hb dX4_put_92 (by decide) ?_
            refine lv_goto (tgt := 97) hx hb dX4_put_93 (by decide) ?_
            refine kx_iadd hx hb dX4_put_97 ?_
            refine lv_istore_n (lv' := [(3, .int (nI (((pm_ps X i).2.2) + 0))), (4, .int (nI 0)), (5, .int (nI 1)), (7, .int (nI (X / 256 ^ i % 256))), (0, .ref (q 0)), (1, .long (pm_L X)), (6, .int (nI i))]) hx hb dX4_put_98 rfl hl (by decide) rfl (fun ls hl => ?_)
            refine kx_iinc (a := i) (lv' := [(6, .int (nI (i + 1))), (3, .int (nI (((pm_ps X i).2.2) + 0))), (4, .int (nI 0)), (5, .int (nI 1)), (7, .int (nI (X / 256 ^ i % 256))), (0, .ref (q 0)), (1, .long (pm_L X))]) hx hb dX4_put_99 hl (k := 6) rfl (by decide) rfl (fun ls hl => ?_)
            refine lv_goto (tgt := 11) hx hb dX4_put_102 (by decide) ?_
            have q16 : (nI ((pm_ps X (i + 1)).2.2) : Int32) = nI (((pm_ps X i).2.2) + 0) := (congrArg nI (by omega))
            have q17 : (nI ((pm_ps X (i + 1)).2.1) : Int32) = nI 0 := (congrArg nI (by omega))
            have q18 : (nI ((pm_ps X (i + 1)).1) : Int32) = nI 1 := (congrArg nI (by omega))
            exact ih1 (i + 1) ls (by omega) (by omega) (by rw [q16, q17, q18]; exact lv_sub hl [5, 6, 1, 2, 3, 0] rfl) 
          · skip
            refine lv_iload hx hb dX4_put_54 (lv_at hl 0 rfl) ?_
            refine lv_if_eq (tgt := 67) hx hb dX4_put_56 (by decide) (fun c19 => absurd c19 (by decide)) (fun _ => ?_)
            refine lv_iload hx hb dX4_put_59 (lv_at hl 1 rfl) ?_
            refine kx_if_ne (tgt := 83) hx hb (by omega) dX4_put_61 (by decide) (fun c20 => ?_) (fun c20 => ?_)
            · skip
              refine lv_iconst (v := nI 0) hx hb dX4_put_83 (by decide) ?_
              refine lv_istore (lv' := [(4, .int (nI 0)), (5, .int (nI 1)), (7, .int (nI (X / 256 ^ i % 256))), (0, .ref (q 0)), (1, .long (pm_L X)), (3, .int (nI ((pm_ps X i).2.2))), (6, .int (nI i))]) hx hb dX4_put_84 hl (by decide) rfl (fun ls hl => ?_)
              refine lv_iload_n hx hb dX4_put_86 rfl (lv_at hl 5 rfl) ?_
              refine lv_iload hx hb dX4_put_87 (lv_at hl 1 rfl) ?_
              refine lv_if_eq (tgt := 96) hx hb dX4_put_89 (by decide) (fun c21 => absurd c21 (by decide)) (fun _ => ?_)
              refine lv_iconst (v := nI 0) hx hb dX4_put_92 (by decide) ?_
              refine lv_goto (tgt := 97) hx hb dX4_put_93 (by decide) ?_
              refine kx_iadd hx hb dX4_put_97 ?_
              refine lv_istore_n (lv' := [(3, .int (nI (((pm_ps X i).2.2) + 0))), (4, .int (nI 0)), (5, .int (nI 1)), (7, .int (nI (X / 256 ^ i % 256))), (0, .ref (q 0)), (1, .long (pm_L X)), (6, .int (nI i))]) hx hb dX4_put_98 rfl hl (by decide) rfl (fun ls hl => ?_)
              refine kx_iinc (a := i) (lv' := [(6, .int (nI (i + 1))), (3, .int (nI (((pm_ps X i).2.2) + 0))), (4, .int (nI 0)), (5, .int (nI 1)), (7, .int (nI (X / 256 ^ i % 256))), (0, .ref (q 0)), (1, .long (pm_L X))]) hx hb dX4_put_99 hl (k := 6) rfl (by decide) rfl (fun ls hl => ?_)
              refine lv_goto (tgt := 11) hx hb dX4_put_102 (by decide) ?_
              have q22 : (nI ((pm_ps X (i + 1)).2.2) : Int32) = nI (((pm_ps X i).2.2) + 0) := (congrArg nI (by omega))
              have q23 : (nI ((pm_ps X (i + 1)).2.1) : Int32) = nI 0 := (congrArg nI (by omega))
              have q24 : (nI ((pm_ps X (i + 1)).1) : Int32) = nI 1 := (congrArg nI (by omega))
              exact ih1 (i + 1) ls (by omega) (by omega) (by rw [q22, q23, q24]; exact lv_sub hl [5, 6, 1, 2, 3, 0] rfl) 
            · skip
              refine lv_goto (tgt := 79) hx hb dX4_put_64 (by decide) ?_
              refine lv_iconst (v := nI 1) hx hb dX4_put_79 (by decide) ?_
              refine lv_goto (tgt := 84) hx hb dX4_put_80 (by decide) ?_
              refine lv_istore (lv' := [(4, .int (nI 1)), (5, .int (nI 1)), (7, .int (nI (X / 256 ^ i % 256))), (0, .ref (q 0)), (1, .long (pm_L X)), (3, .int (nI ((pm_ps X i).2.2))), (6, .int (nI i))]) hx hb dX4_put_84 hl (by decide) rfl (fun ls hl => ?_)
              refine lv_iload_n hx hb dX4_put_86 rfl (lv_at hl 5 rfl) ?_
              refine lv_iload hx hb dX4_put_87 (lv_at hl 1 rfl) ?_
              refine lv_if_eq (tgt := 96) hx hb dX4_put_89 (by decide) (fun c25 => absurd c25 (by decide)) (fun _ => ?_)
              refine lv_iconst (v := nI 0) hx hb dX4_put_92 (by decide) ?_
              refine lv_goto (tgt := 97) hx hb dX4_put_93 (by decide) ?_
              refine kx_iadd hx hb dX4_put_97 ?_
              refine lv_istore_n (lv' := [(3, .int (nI (((pm_ps X i).2.2) + 0))), (4, .int (nI 1)), (5, .int (nI 1)), (7, .int (nI (X / 256 ^ i % 256))), (0, .ref (q 0)), (1, .long (pm_L X)), (6, .int (nI i))]) hx hb dX4_put_98 rfl hl (by decide) rfl (fun ls hl => ?_)
              refine kx_iinc (a := i) (lv' := [(6, .int (nI (i + 1))), (3, .int (nI (((pm_ps X i).2.2) + 0))), (4, .int (nI 1)), (5, .int (nI 1)), (7, .int (nI (X / 256 ^ i % 256))), (0, .ref (q 0)), (1, .long (pm_L X))]) hx hb dX4_put_99 hl (k := 6) rfl (by decide) rfl (fun ls hl => ?_)
              refine lv_goto (tgt := 11) hx hb dX4_put_102 (by decide) ?_
              have q26 : (nI ((pm_ps X (i + 1)).2.2) : Int32) = nI (((pm_ps X i).2.2) + 0) := (congrArg nI (by omega))
              have q27 : (nI ((pm_ps X (i + 1)).2.1) : Int32) = nI 1 := (congrArg nI (by omega))
              have q28 : (nI ((pm_ps X (i + 1)).1) : Int32) = nI 1 := (congrArg nI (by omega))
              exact ih1 (i + 1) ls (by omega) (by omega) (by rw [q26, q27, q28]; exact lv_sub hl [5, 6, 1, 2, 3, 0] rfl) 
        · skip
          refine lv_iload hx hb dX4_put_37 (lv_at hl 0 rfl) ?_
          refine kx_if_ne (tgt := 46) hx hb (by omega) dX4_put_39 (by decide) (fun c29 => ?_) (fun c29 => ?_)
          · skip
            refine lv_iconst (v := nI 0) hx hb dX4_put_46 (by decide) ?_
            refine lv_istore (lv' := [(5, .int (nI 0)), (7, .int (nI (X / 256 ^ i % 256))), (0, .ref (q 0)), (1, .long (pm_L X)), (3, .int (nI ((pm_ps X i).2.2))), (4, .int (nI ((pm_ps X i).2.1))), (6, .int (nI i))]) hx hb dX4_put_47 hl (by decide) rfl (fun ls hl => ?_)
            refine lv_iload hx hb dX4_put_49 (lv_at hl 5 rfl) ?_
            refine kx_if_eq (tgt := 83) hx hb (by omega) dX4_put_51 (by decide) (fun c30 => ?_) (fun c30 => ?_)
            · skip
              refine lv_iconst (v := nI 0) hx hb dX4_put_83 (by decide) ?_
              refine lv_istore (lv' := [(4, .int (nI 0)), (5, .int (nI 0)), (7, .int (nI (X / 256 ^ i % 256))), (0, .ref (q 0)), (1, .long (pm_L X)), (3, .int (nI ((pm_ps X i).2.2))), (6, .int (nI i))]) hx hb dX4_put_84 hl (by decide) rfl (fun ls hl => ?_)
              refine lv_iload_n hx hb dX4_put_86 rfl (lv_at hl 5 rfl) ?_
              refine lv_iload hx hb dX4_put_87 (lv_at hl 1 rfl) ?_
              refine lv_if_eq (tgt := 96) hx hb dX4_put_89 (by decide) (fun _ => ?_) (fun c31 => (c31 (by decide)).elim)
              refine lv_iconst (v := nI 1) hx hb dX4_put_96 (by decide) ?_
              refine kx_iadd hx hb dX4_put_97 ?_
              refine lv_istore_n (lv' := [(3, .int (nI (((pm_ps X i).2.2) + 1))), (4, .int (nI 0)), (5, .int (nI 0)), (7, .int (nI (X / 256 ^ i % 256))), (0, .ref (q 0)), (1, .long (pm_L X)), (6, .int (nI i))]) hx hb dX4_put_98 rfl hl (by decide) rfl (fun ls hl => ?_)
              refine kx_iinc (a := i) (lv' := [(6, .int (nI (i + 1))), (3, .int (nI (((pm_ps X i).2.2) + 1))), (4, .int (nI 0)), (5, .int (nI 0)), (7, .int (nI (X / 256 ^ i % 256))), (0, .ref (q 0)), (1, .long (pm_L X))]) hx hb dX4_put_99 hl (k := 6) rfl (by decide) rfl (fun ls hl => ?_)
              refine lv_goto (tgt := 11) hx hb dX4_put_102 (by decide) ?_
              have q32 : (nI ((pm_ps X (i + 1)).2.2) : Int32) = nI (((pm_ps X i).2.2) + 1) := (congrArg nI (by omega))
              have q33 : (nI ((pm_ps X (i + 1)).2.1) : Int32) = nI 0 := (congrArg nI (by omega))
              have q34 : (nI ((pm_ps X (i + 1)).1) : Int32) = nI 0 := (congrArg nI (by omega))
              exact ih1 (i + 1) ls (by omega) (by omega) (by rw [q32, q33, q34]; exact lv_sub hl [5, 6, 1, 2, 3, 0] rfl) 
            · skip
              refine lv_iload hx hb dX4_put_54 (lv_at hl 0 rfl) ?_
              refine lv_if_eq (tgt := 67) hx hb dX4_put_56 (by decide) (fun _ => ?_) (fun c35 => (c35 (by decide)).elim)
              refine lv_iload hx hb dX4_put_67 (lv_at hl 1 rfl) ?_
              refine lv_bipush (v := nI 33) hx hb dX4_put_69 (by decide) ?_
              refine lv_bipush (v := nI 126) hx hb dX4_put_71 (by decide) ?_
              refine vp_callSi (W.runS (As := [.int (nI (X / 256 ^ i % 256)), .int (nI 33), .int (nI 126)]) (rest := []) ⟨hx, hb, hml, hown, hts⟩ (k_X4_in l (nI (X / 256 ^ i % 256)) (nI 33) (nI 126)) (va_cwS 3 hts gX4_put_X4_in rfl rfl rfl hd_X4_in ⟨Nat.le_of_ble_eq_true rfl, Nat.le_of_ble_eq_true rfl⟩) ⟨pm_no_blind, pm_no_pre⟩ rfl rfl hl.1 rfl (lv_room (Nat.le_of_ble_eq_true rfl)) dX4_put_73 ⟨Nat.le_of_ble_eq_true rfl, Nat.le_of_ble_eq_true rfl⟩) (fun r36 h37 => ?_)
              rcases (show ((nI 33 ≤ nI (X / 256 ^ i % 256) ∧ nI (X / 256 ^ i % 256) ≤ nI 126) ∧ r36 = nI 1) ∨ (¬ (nI 33 ≤ nI (X / 256 ^ i % 256) ∧ nI (X / 256 ^ i % 256) ≤ nI 126) ∧ r36 = nI 0) from h37) with ⟨hp38, rfl⟩ | ⟨hp38, rfl⟩
              · replace hp38 := (pm_in_n (by omega) (by decide) (by decide)).mp hp38
                refine lv_if_eq (tgt := 83) hx hb dX4_put_76 (by decide) (fun c39 => absurd c39 (by decide)) (fun _ => ?_)
                refine lv_iconst (v := nI 1) hx hb dX4_put_79 (by decide) ?_
                refine lv_goto (tgt := 84) hx hb dX4_put_80 (by decide) ?_
                refine lv_istore (lv' := [(4, .int (nI 1)), (5, .int (nI 0)), (7, .int (nI (X / 256 ^ i % 256))), (0, .ref (q 0)), (1, .long (pm_L X)), (3, .int (nI ((pm_ps X i).2.2))), (6, .int (nI i))]) hx hb dX4_put_84 hl (by decide) rfl (fun ls hl => ?_)
                refine lv_iload_n hx hb dX4_put_86 rfl (lv_at hl 5 rfl) ?_
                refine lv_iload hx hb dX4_put_87 (lv_at hl 1 rfl) ?_
                refine lv_if_eq (tgt := 96) hx hb dX4_put_89 (by decide) (fun _ => ?_) (fun c40 => (c40 (by decide)).elim)
                refine lv_iconst (v := nI 1) hx hb dX4_put_96 (by decide) ?_
                refine kx_iadd hx hb dX4_put_97 ?_
                refine lv_istore_n (lv' := [(3, .int (nI (((pm_ps X i).2.2) + 1))), (4, .int (nI 1)), (5, .int (nI 0)), (7, .int (nI (X / 256 ^ i % 256))), (0, .ref (q 0)), (1, .long (pm_L X)), (6, .int (nI i))]) hx hb dX4_put_98 rfl hl (by decide) rfl (fun ls hl => ?_)
                refine kx_iinc (a := i) (lv' := [(6, .int (nI (i + 1))), (3, .int (nI (((pm_ps X i).2.2) + 1))), (4, .int (nI 1)), (5, .int (nI 0)), (7, .int (nI (X / 256 ^ i % 256))), (0, .ref (q 0)), (1, .long (pm_L X))]) hx hb dX4_put_99 hl (k := 6) rfl (by decide) rfl (fun ls hl => ?_)
                refine lv_goto (tgt := 11) hx hb dX4_put_102 (by decide) ?_
                have q41 : (nI ((pm_ps X (i + 1)).2.2) : Int32) = nI (((pm_ps X i).2.2) + 1) := (congrArg nI (by omega))
                have q42 : (nI ((pm_ps X (i + 1)).2.1) : Int32) = nI 1 := (congrArg nI (by omega))
                have q43 : (nI ((pm_ps X (i + 1)).1) : Int32) = nI 0 := (congrArg nI (by omega))
                exact ih1 (i + 1) ls (by omega) (by omega) (by rw [q41, q42, q43]; exact lv_sub hl [5, 6, 1, 2, 3, 0] rfl) 
              · replace hp38 := mt (pm_in_n (by omega) (by decide) (by decide)).mpr hp38
                refine lv_if_eq (tgt := 83) hx hb dX4_put_76 (by decide) (fun _ => ?_) (fun c44 => (c44 (by decide)).elim)
                refine lv_iconst (v := nI 0) hx hb dX4_put_83 (by decide) ?_
                refine lv_istore (lv' := [(4, .int (nI 0)), (5, .int (nI 0)), (7, .int (nI (X / 256 ^ i % 256))), (0, .ref (q 0)), (1, .long (pm_L X)), (3, .int (nI ((pm_ps X i).2.2))), (6, .int (nI i))]) hx hb dX4_put_84 hl (by decide) rfl (fun ls hl => ?_)
                refine lv_iload_n hx hb dX4_put_86 rfl (lv_at hl 5 rfl) ?_
                refine lv_iload hx hb dX4_put_87 (lv_at hl 1 rfl) ?_
                refine lv_if_eq (tgt := 96) hx hb dX4_put_89 (by decide) (fun _ => ?_) (fun c45 => (c45 (by decide)).elim)
                refine lv_iconst (v := nI 1) hx hb dX4_put_96 (by decide) ?_
                refine kx_iadd hx hb dX4_put_97 ?_
                refine lv_istore_n (lv' := [(3, .int (nI (((pm_ps X i).2.2) + 1))), (4, .int (nI 0)), (5, .int (nI 0)), (7, .int (nI (X / 256 ^ i % 256))), (0, .ref (q 0)), (1, .long (pm_L X)), (6, .int (nI i))]) hx hb dX4_put_98 rfl hl (by decide) rfl (fun ls hl => ?_)
                refine kx_iinc (a := i) (lv' := [(6, .int (nI (i + 1))), (3, .int (nI (((pm_ps X i).2.2) + 1))), (4, .int (nI 0)), (5, .int (nI 0)), (7, .int (nI (X / 256 ^ i % 256))), (0, .ref (q 0)), (1, .long (pm_L X))]) hx hb dX4_put_99 hl (k := 6) rfl (by decide) rfl (fun ls hl => ?_)
                refine lv_goto (tgt := 11) hx hb dX4_put_102 (by decide) ?_
                have q46 : (nI ((pm_ps X (i + 1)).2.2) : Int32) = nI (((pm_ps X i).2.2) + 1) := (congrArg nI (by omega))
                have q47 : (nI ((pm_ps X (i + 1)).2.1) : Int32) = nI 0 := (congrArg nI (by omega))
                have q48 : (nI ((pm_ps X (i + 1)).1) : Int32) = nI 0 := (congrArg nI (by omega))
                exact ih1 (i + 1) ls (by omega) (by omega) (by rw [q46, q47, q48]; exact lv_sub hl [5, 6, 1, 2, 3, 0] rfl) 
          · skip
            refine lv_iconst (v := nI 1) hx hb dX4_put_42 (by decide) ?_
            refine lv_goto (tgt := 47) hx hb dX4_put_43 (by decide) ?_
            refine lv_istore (lv' := [(5, .int (nI 1)), (7, .int (nI (X / 256 ^ i % 256))), (0, .ref (q 0)), (1, .long (pm_L X)), (3, .int (nI ((pm_ps X i).2.2))), (4, .int (nI ((pm_ps X i).2.1))), (6, .int (nI i))]) hx hb dX4_put_47 hl (by decide) rfl (fun ls hl => ?_)
            refine lv_iload hx hb dX4_put_49 (lv_at hl 5 rfl) ?_
            refine kx_if_eq (tgt := 83) hx hb (by omega) dX4_put_51 (by decide) (fun c49 => ?_) (fun c49 => ?_)
            · skip
              refine lv_iconst (v := nI 0) hx hb dX4_put_83 (by decide) ?_
              refine lv_istore (lv' := [(4, .int (nI 0)), (5, .int (nI 1)), (7, .int (nI (X / 256 ^ i % 256))), (0, .ref (q 0)), (1, .long (pm_L X)), (3, .int (nI ((pm_ps X i).2.2))), (6, .int (nI i))]) hx hb dX4_put_84 hl (by decide) rfl (fun ls hl => ?_)
              refine lv_iload_n hx hb dX4_put_86 rfl (lv_at hl 5 rfl) ?_
              refine lv_iload hx hb dX4_put_87 (lv_at hl 1 rfl) ?_
              refine lv_if_eq (tgt := 96) hx hb dX4_put_89 (by decide) (fun c50 => absurd c50 (by decide)) (fun _ => ?_)
              refine lv_iconst (v := nI 0) hx hb dX4_put_92 (by decide) ?_
              refine lv_goto (tgt := 97) hx hb dX4_put_93 (by decide) ?_
              refine kx_iadd hx hb dX4_put_97 ?_
              refine lv_istore_n (lv' := [(3, .int (nI (((pm_ps X i).2.2) + 0))), (4, .int (nI 0)), (5, .int (nI 1)), (7, .int (nI (X / 256 ^ i % 256))), (0, .ref (q 0)), (1, .long (pm_L X)), (6, .int (nI i))]) hx hb dX4_put_98 rfl hl (by decide) rfl (fun ls hl => ?_)
              refine kx_iinc (a := i) (lv' := [(6, .int (nI (i + 1))), (3, .int (nI (((pm_ps X i).2.2) + 0))), (4, .int (nI 0)), (5, .int (nI 1)), (7, .int (nI (X / 256 ^ i % 256))), (0, .ref (q 0)), (1, .long (pm_L X))]) hx hb dX4_put_99 hl (k := 6) rfl (by decide) rfl (fun ls hl => ?_)
              refine lv_goto (tgt := 11) hx hb dX4_put_102 (by decide) ?_
              have q51 : (nI ((pm_ps X (i + 1)).2.2) : Int32) = nI (((pm_ps X i).2.2) + 0) := (congrArg nI (by omega))
              have q52 : (nI ((pm_ps X (i + 1)).2.1) : Int32) = nI 0 := (congrArg nI (by omega))
              have q53 : (nI ((pm_ps X (i + 1)).1) : Int32) = nI 1 := (congrArg nI (by omega))
              exact ih1 (i + 1) ls (by omega) (by omega) (by rw [q51, q52, q53]; exact lv_sub hl [5, 6, 1, 2, 3, 0] rfl) 
            · skip
              refine lv_iload hx hb dX4_put_54 (lv_at hl 0 rfl) ?_
              refine lv_if_eq (tgt := 67) hx hb dX4_put_56 (by decide) (fun c54 => absurd c54 (by decide)) (fun _ => ?_)
              refine lv_iload hx hb dX4_put_59 (lv_at hl 1 rfl) ?_
              refine kx_if_ne (tgt := 83) hx hb (by omega) dX4_put_61 (by decide) (fun c55 => ?_) (fun c55 => ?_)
              · skip
                refine lv_iconst (v := nI 0) hx hb dX4_put_83 (by decide) ?_
                refine lv_istore (lv' := [(4, .int (nI 0)), (5, .int (nI 1)), (7, .int (nI (X / 256 ^ i % 256))), (0, .ref (q 0)), (1, .long (pm_L X)), (3, .int (nI ((pm_ps X i).2.2))), (6, .int (nI i))]) hx hb dX4_put_84 hl (by decide) rfl (fun ls hl => ?_)
                refine lv_iload_n hx hb dX4_put_86 rfl (lv_at hl 5 rfl) ?_
                refine lv_iload hx hb dX4_put_87 (lv_at hl 1 rfl) ?_
                refine lv_if_eq (tgt := 96) hx hb dX4_put_89 (by decide) (fun c56 => absurd c56 (by decide)) (fun _ => ?_)
                refine lv_iconst (v := nI 0) hx hb dX4_put_92 (by decide) ?_
                refine lv_goto (tgt := 97) hx hb dX4_put_93 (by decide) ?_
                refine kx_iadd hx hb dX4_put_97 ?_
                refine lv_istore_n (lv' := [(3, .int (nI (((pm_ps X i).2.2) + 0))), (4, .int (nI 0)), (5, .int (nI 1)), (7, .int (nI (X / 256 ^ i % 256))), (0, .ref (q 0)), (1, .long (pm_L X)), (6, .int (nI i))]) hx hb dX4_put_98 rfl hl (by decide) rfl (fun ls hl => ?_)
                refine kx_iinc (a := i) (lv' := [(6, .int (nI (i + 1))), (3, .int (nI (((pm_ps X i).2.2) + 0))), (4, .int (nI 0)), (5, .int (nI 1)), (7, .int (nI (X / 256 ^ i % 256))), (0, .ref (q 0)), (1, .long (pm_L X))]) hx hb dX4_put_99 hl (k := 6) rfl (by decide) rfl (fun ls hl => ?_)
                refine lv_goto (tgt := 11) hx hb dX4_put_102 (by decide) ?_
                have q57 : (nI ((pm_ps X (i + 1)).2.2) : Int32) = nI (((pm_ps X i).2.2) + 0) := (congrArg nI (by omega))
                have q58 : (nI ((pm_ps X (i + 1)).2.1) : Int32) = nI 0 := (congrArg nI (by omega))
                have q59 : (nI ((pm_ps X (i + 1)).1) : Int32) = nI 1 := (congrArg nI (by omega))
                exact ih1 (i + 1) ls (by omega) (by omega) (by rw [q57, q58, q59]; exact lv_sub hl [5, 6, 1, 2, 3, 0] rfl) 
              · skip
                refine lv_goto (tgt := 79) hx hb dX4_put_64 (by decide) ?_
                refine lv_iconst (v := nI 1) hx hb dX4_put_79 (by decide) ?_
                refine lv_goto (tgt := 84) hx hb dX4_put_80 (by decide) ?_
                refine lv_istore (lv' := [(4, .int (nI 1)), (5, .int (nI 1)), (7, .int (nI (X / 256 ^ i % 256))), (0, .ref (q 0)), (1, .long (pm_L X)), (3, .int (nI ((pm_ps X i).2.2))), (6, .int (nI i))]) hx hb dX4_put_84 hl (by decide) rfl (fun ls hl => ?_)
                refine lv_iload_n hx hb dX4_put_86 rfl (lv_at hl 5 rfl) ?_
                refine lv_iload hx hb dX4_put_87 (lv_at hl 1 rfl) ?_
                refine lv_if_eq (tgt := 96) hx hb dX4_put_89 (by decide) (fun c60 => absurd c60 (by decide)) (fun _ => ?_)
                refine lv_iconst (v := nI 0) hx hb dX4_put_92 (by decide) ?_
                refine lv_goto (tgt := 97) hx hb dX4_put_93 (by decide) ?_
                refine kx_iadd hx hb dX4_put_97 ?_
                refine lv_istore_n (lv' := [(3, .int (nI (((pm_ps X i).2.2) + 0))), (4, .int (nI 1)), (5, .int (nI 1)), (7, .int (nI (X / 256 ^ i % 256))), (0, .ref (q 0)), (1, .long (pm_L X)), (6, .int (nI i))]) hx hb dX4_put_98 rfl hl (by decide) rfl (fun ls hl => ?_)
                refine kx_iinc (a := i) (lv' := [(6, .int (nI (i + 1))), (3, .int (nI (((pm_ps X i).2.2) + 0))), (4, .int (nI 1)), (5, .int (nI 1)), (7, .int (nI (X / 256 ^ i % 256))), (0, .ref (q 0)), (1, .long (pm_L X))]) hx hb dX4_put_99 hl (k := 6) rfl (by decide) rfl (fun ls hl => ?_)
                refine lv_goto (tgt := 11) hx hb dX4_put_102 (by decide) ?_
                have q61 : (nI ((pm_ps X (i + 1)).2.2) : Int32) = nI (((pm_ps X i).2.2) + 0) := (congrArg nI (by omega))
                have q62 : (nI ((pm_ps X (i + 1)).2.1) : Int32) = nI 1 := (congrArg nI (by omega))
                have q63 : (nI ((pm_ps X (i + 1)).1) : Int32) = nI 1 := (congrArg nI (by omega))
                exact ih1 (i + 1) ls (by omega) (by omega) (by rw [q61, q62, q63]; exact lv_sub hl [5, 6, 1, 2, 3, 0] rfl) 
  exact LOOP11 (8 + 1) 0 ls (by omega) (by omega) (lv_sub hl [4, 5, 3, 2, 1, 0] rfl) 
