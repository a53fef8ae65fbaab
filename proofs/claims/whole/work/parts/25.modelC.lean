theorem pm_outle {x : Int32} {a b : Nat} (ha : a < 2 ^ 31) (hb : b ≤ a) (h : x < 0 ∨ nI a ≤ x) : x < 0 ∨ nI b ≤ x := by
  rcases h with h | h
  · exact Or.inl h
  · refine Or.inr (Int32.le_iff_toInt_le.mpr ?_)
    have c := Int32.le_iff_toInt_le.mp h
    rw [nI_toInt ha] at c
    rw [nI_toInt (by omega)]
    omega
def pm_sh1 (g : Nat → Int32) (n : Nat) : Nat → Int32 := fun j => if j < n then g (172 + j) else g j
def pm_sh2 (g : Nat → Int32) (b : Nat) (S : Nat → Nat → Nat) (n : Nat) : Nat → Int32 := fun j => if b ≤ j ∧ j < b + n then pm_ms S (j - b) else g j
theorem pm_sh1_0 (g : Nat → Int32) : pm_sh1 g 0 = g := by
  funext j
  rw [pm_sh1, if_neg (by omega)]
theorem pm_sh1_s (g : Nat → Int32) (k : Nat) : upd (pm_sh1 g k) k (pm_sh1 g k (172 + k)) = pm_sh1 g (k + 1) := by
  funext j
  unfold upd pm_sh1
  rw [if_neg (show ¬ 172 + k < k by omega)]
  by_cases h : j = k
  · rw [if_pos h, if_pos (by omega), h]
  · rw [if_neg h]
    by_cases h2 : j < k
    · rw [if_pos h2, if_pos (by omega)]
    · rw [if_neg h2, if_neg (by omega)]
theorem pm_sh2_0 (g : Nat → Int32) (b : Nat) (S : Nat → Nat → Nat) : pm_sh2 g b S 0 = g := by
  funext j
  rw [pm_sh2, if_neg (by omega)]
theorem pm_sh2_s (g : Nat → Int32) (b : Nat) (S : Nat → Nat → Nat) (k : Nat) : upd (pm_sh2 g b S k) (b + k) (pm_ms S k) = pm_sh2 g b S (k + 1) := by
  funext j
  unfold upd pm_sh2
  by_cases h : j = b + k
  · rw [if_pos h, if_pos (by omega), h, show b + k - b = k by omega]
  · rw [if_neg h]
    by_cases h2 : b ≤ j ∧ j < b + k
    · rw [if_pos h2, if_pos (by omega)]
    · rw [if_neg h2, if_neg (by omega)]
theorem pm_kn6 {kn : Nat} (h : kn ≤ 6) : pm_kn kn ≤ 6 := by
  unfold pm_kn
  split <;> omega
theorem pm_rem_6 {gp : Nat → Int32} {Hs : Nat → Nat → Nat → Nat} {S : Nat → Nat → Nat} (hM : pm_MH gp 6 Hs) : pm_MH (pm_sh2 (pm_sh1 gp 860) 860 S 172) (pm_kn 6) (pm_push Hs 6 S) := by
  intro k hk j hj
  have hk : k < 6 := hk
  unfold pm_push
  rw [if_pos rfl]
  by_cases h : k = 5
  · subst h
    rw [if_pos rfl, pm_sh2, if_pos (by omega), show 172 * 5 + j - 860 = j by omega]
  · rw [if_neg h, pm_sh2, if_neg (by omega), pm_sh1, if_pos (by omega), show 172 + (172 * k + j) = 172 * (k + 1) + j by omega]
    exact hM (k + 1) (by omega) j hj
theorem pm_rem_n {gp : Nat → Int32} {kn : Nat} {Hs : Nat → Nat → Nat → Nat} {S : Nat → Nat → Nat} (hM : pm_MH gp kn Hs) (h : ¬ kn = 6) : pm_MH (pm_sh2 gp (172 * kn) S 172) (pm_kn kn) (pm_push Hs kn S) := by
  intro k hk j hj
  rw [pm_kn, if_neg h] at hk
  unfold pm_push
  rw [if_neg h]
  by_cases hkn : k = kn
  · subst hkn
    rw [if_pos rfl, pm_sh2, if_pos (by omega), show 172 * k + j - 172 * k = j by omega]
  · rw [if_neg hkn, pm_sh2, if_neg (by omega)]
    exact hM k (by omega) j hj
theorem pm_st_id {S : Nat → Nat → Nat} {c k v : Nat} (h : S c k = v) : pm_st S c k v = S := by
  funext d
  unfold pm_st updN
  split
  · rename_i e
    subst e
    funext j
    split
    · rename_i e2
      rw [e2, h]
    · rfl
  · rfl
set_option maxHeartbeats 4000000 in
set_option maxRecDepth 100000 in
theorem k_X4_remembers (l : Launch) (D : va_G) (y : Nat → ClassId) (q : Nat → Nat) (S : Nat → Nat → Nat) (gp gs : Nat → Int32) (kn ln : Nat) (sv pd : Nat → Nat) (Hs : Nat → Nat → Nat → Nat) (hk : kn ≤ 6) (hM : pm_MH gp kn Hs) : Met l yX4_remembers wsX4_remembers ({ frames := 0, cells := 0, slots := 0, locals := 0 } : Room) (pm_wr D (pm_ty y) [.ref (q 0)] (pm_mo y q S gp gs kn ln sv pd)) (pm_Qv D (fun (u : Nat → Int32) => pm_MH u (pm_kn kn) (pm_push Hs kn S)) (fun (u : Nat → Int32) => pm_mo y q S u gs (pm_kn kn) ln sv pd) (pm_mo y q S gp gs kn ln sv pd)) 0 0 (pm_ad (pm_mo y q S gp gs kn ln sv pd)) := by
  refine Met.ofW (cc := cX4_remembers) (maxL := 2) (ret := none) (by decide) rfl ?_
  intro p e s m args below meth c s₁ B hml hpre
  obtain ⟨rfl, hP, hK, hD0⟩ := hpre
  have hx := B.exec
  have hb := B.bytes
  have hr := B.returns
  have hts := atoms_spec (ws := wsX4_remembers) B.pre
  have hown : s.vm.findClass RX4 = some m.cls := findClass_of_methodNamed B.named
  have hlocks := B.notSynchronized
  have hin4 : ∀ w ∈ u_ws RX4 TX4 7, w ∈ wsX4_remembers := fun w h => List.mem_cons_of_mem _ (List.mem_append_right _ h)
  have hD := pm_ad_self hD0
  have hS : va_S (pm_ad (pm_mo y q S gp gs kn ln sv pd)) s.heap s.heap [] := va_S.rf
  have hP : va_P D vwCl (pm_mo y q S gp gs kn ln sv pd) s.heap := hP
  have hl := lv_entry ([.ref (q 0)]) (n := 2) (Nat.le_of_ble_eq_true rfl)
  rw [lg_entry_eq]
  generalize (lg_sl ([.ref (q 0)]) ++ List.replicate (2 - (lg_sl ([.ref (q 0)])).length) Slot.unset).toArray = ls at hl ⊢
  have hl : lv_has ls 2 [(0, .ref (q 0))] := hl
  refine lv_aload_n hx hb dX4_remembers_0 rfl (lv_at hl 0 rfl) ?_
  refine va_get (D := D) (ci := 4) (v := .int (nI kn)) (C := RX4) (T := TX4) (N := 7) hx hb hts hin4 hown hK hP 0 rfl rfl 2 (by decide) (hts (.fieldLink RX4 37 "ProofMarksModel" "known" "I") (List.mem_of_getElem? (i := 1) rfl)) (fun _ h9 => h9) rfl dX4_remembers_1 ?_
  refine lv_bipush (v := nI 6) hx hb dX4_remembers_4 (by decide) ?_
  refine kx_icmp_ne (tgt := 50) hx hb (by omega) (by decide) dX4_remembers_6 (by decide) (fun c1 => ?_) (fun c1 => ?_)
  · skip
    refine lv_iconst (v := nI 0) hx hb dX4_remembers_50 (by decide) ?_
    refine lv_istore_n (lv' := [(1, .int (nI 0)), (0, .ref (q 0))]) hx hb dX4_remembers_51 rfl hl (by decide) rfl (fun ls hl => ?_)
    have LOOP52 : ∀ (n j : Nat) (ls : Array Slot) (H : Heap) (locs : List Loc), va_P D vwCl (pm_mo y q S (pm_sh2 gp (172 * kn) S j) gs kn ln sv pd) H → va_D (pm_ad (pm_mo y q S gp gs kn ln sv pd)) (pm_mo y q S (pm_sh2 gp (172 * kn) S j) gs kn ln sv pd) → va_S (pm_ad (pm_mo y q S gp gs kn ln sv pd)) s.heap H locs → j ≤ 172 → 172 - j < n → lv_has ls 2 [(0, .ref (q 0)), (1, .int (nI j))] → W p l e (headSpec wsX4_remembers ({ frames := 0, cells := 0, slots := 0, locals := 0 } : Room)).room s m ([.ref (q 0)] : List Value).toArray below meth c H locs 0 0 (MQ below (pm_Qv D (fun (u : Nat → Int32) => pm_MH u (pm_kn kn) (pm_push Hs kn S)) (fun (u : Nat → Int32) => pm_mo y q S u gs (pm_kn kn) ln sv pd) (pm_mo y q S gp gs kn ln sv pd)) ([.ref (q 0)] : List Value).toArray s 0 0 (pm_ad (pm_mo y q S gp gs kn ln sv pd))) (F0 m 52 ls []) := by
      intro n
      induction n with
      | zero => intro j _ _ _ _ _ _ hi hn; omega
      | succ n ih2 =>
        intro j ls H locs  hP hD hS hi_j hn_j hl 
        refine lv_iload_n hx hb dX4_remembers_52 rfl (lv_at hl 1 rfl) ?_
        refine lv_sipush (v := nI 172) hx hb dX4_remembers_53 (by decide) ?_
        refine kx_icmp_ge (tgt := 86) hx hb (by omega) (by decide) dX4_remembers_56 (by decide) (fun c3 => ?_) (fun c3 => ?_)
        · skip
          obtain rfl : j = 172 := by omega
          refine lv_aload_n hx hb dX4_remembers_86 rfl (lv_at hl 0 rfl) ?_
          refine lv_dup hx hb dX4_remembers_87 rfl ?_
          refine va_get (D := D) (ci := 4) (v := .int (nI kn)) (C := RX4) (T := TX4) (N := 7) hx hb hts hin4 hown hK hP 0 rfl rfl 2 (by decide) (hts (.fieldLink RX4 37 "ProofMarksModel" "known" "I") (List.mem_of_getElem? (i := 1) rfl)) (fun _ h9 => h9) rfl dX4_remembers_88 ?_
          refine lv_iconst (v := nI 1) hx hb dX4_remembers_91 (by decide) ?_
          refine kx_iadd hx hb dX4_remembers_92 ?_
          refine kx_put (D := D) (ci := 4) (v := .int (nI (kn + 1))) (ty := .int) (ws' := pm_mo y q S (pm_sh2 gp (172 * kn) S 172) gs (kn + 1) ln sv pd) (C := RX4) (T := TX4) (N := 7) hx hb hts hin4 tyX4 tyX4_ok nmX4 hown hK hP hD hS 0 rfl rfl 2 (by decide) (hts (.fieldLink RX4 37 "ProofMarksModel" "known" "I") (List.mem_of_getElem? (i := 1) rfl)) (fun _ h9 => h9) rfl (by decide +kernel) rfl rfl (Nat.le_of_ble_eq_true rfl) rfl dX4_remembers_93 (fun H locs hP hD hS => ?_)
          exact W.vret hx hb hr (fun t ht _ => ⟨⟨(pm_sh2 gp (172 * kn) S 172), rfl, (pm_rem_n hM (by omega)), (by show va_P D vwCl (pm_mo y q S (pm_sh2 gp (172 * kn) S 172) gs (pm_kn kn) ln sv pd) t.heap; rw [ht]; exact (by rw [show pm_kn kn = kn + 1 from if_neg (by omega)]; exact hP))⟩, hS.F ht⟩) hS.2.2 dX4_remembers_96
        · skip
          refine lv_aload_n hx hb dX4_remembers_59 rfl (lv_at hl 0 rfl) ?_
          refine va_get (D := D) (ci := 4) (v := .ref (q 2)) (C := RX4) (T := TX4) (N := 7) hx hb hts hin4 hown hK hP 0 rfl rfl 1 (by decide) (hts (.fieldLink RX4 13 "ProofMarksModel" "past" "[I") (List.mem_of_getElem? (i := 2) rfl)) (fun _ h9 => h9) rfl dX4_remembers_60 ?_
          refine lv_sipush (v := nI 172) hx hb dX4_remembers_63 (by decide) ?_
          refine lv_aload_n hx hb dX4_remembers_66 rfl (lv_at hl 0 rfl) ?_
          refine va_get (D := D) (ci := 4) (v := .int (nI kn)) (C := RX4) (T := TX4) (N := 7) hx hb hts hin4 hown hK hP 0 rfl rfl 2 (by decide) (hts (.fieldLink RX4 37 "ProofMarksModel" "known" "I") (List.mem_of_getElem? (i := 1) rfl)) (fun _ h9 => h9) rfl dX4_remembers_67 ?_
          refine kx_imul hx hb dX4_remembers_70 ?_
          refine lv_iload_n hx hb dX4_remembers_71 rfl (lv_at hl 1 rfl) ?_
          refine kx_iadd hx hb dX4_remembers_72 ?_
          refine lv_aload_n hx hb dX4_remembers_73 rfl (lv_at hl 0 rfl) ?_
          refine va_get (D := D) (ci := 4) (v := .ref (q 1)) (C := RX4) (T := TX4) (N := 7) hx hb hts hin4 hown hK hP 0 rfl rfl 0 (by decide) (hts (.fieldLink RX4 7 "ProofMarksModel" "s" "[I") (List.mem_of_getElem? (i := 3) rfl)) (fun _ h9 => h9) rfl dX4_remembers_74 ?_
          refine lv_iload_n hx hb dX4_remembers_77 rfl (lv_at hl 1 rfl) ?_
          refine kx_iald (v := pm_ms S j) hx hb hK hP 1 0 rfl rfl (by omega) (by decide) rfl dX4_remembers_78 ?_
          refine kx_iast (ws' := pm_mo y q S (pm_sh2 gp (172 * kn) S (j + 1)) gs kn ln sv pd) hx hb hK hP hD hS 2 0 rfl rfl (by omega) (by decide) (pm_sh2_s gp (172 * kn) S j) rfl dX4_remembers_79 (fun H locs hP hD hS => ?_)
          refine kx_iinc (a := j) (lv' := [(1, .int (nI (j + 1))), (0, .ref (q 0))]) hx hb dX4_remembers_80 hl (k := 1) rfl (by decide) rfl (fun ls hl => ?_)
          refine lv_goto (tgt := 52) hx hb dX4_remembers_83 (by decide) ?_
          exact ih2 (j + 1) ls H locs hP hD hS (by omega) (by omega) (by exact lv_sub hl [1, 0] rfl) 
    exact LOOP52 (172 + 1) 0 ls _ _ (by rw [pm_sh2_0]; exact hP) (by rw [pm_sh2_0]; exact hD) hS (by omega) (by omega) (lv_sub hl [1, 0] rfl) 
  · skip
    subst c1
    refine lv_iconst (v := nI 0) hx hb dX4_remembers_9 (by decide) ?_
    refine lv_istore_n (lv' := [(1, .int (nI 0)), (0, .ref (q 0))]) hx hb dX4_remembers_10 rfl hl (by decide) rfl (fun ls hl => ?_)
    have LOOP11 : ∀ (n k : Nat) (ls : Array Slot) (H : Heap) (locs : List Loc), va_P D vwCl (pm_mo y q S (pm_sh1 gp k) gs 6 ln sv pd) H → va_D (pm_ad (pm_mo y q S gp gs 6 ln sv pd)) (pm_mo y q S (pm_sh1 gp k) gs 6 ln sv pd) → va_S (pm_ad (pm_mo y q S gp gs 6 ln sv pd)) s.heap H locs → k ≤ 860 → 860 - k < n → lv_has ls 2 [(0, .ref (q 0)), (1, .int (nI k))] → W p l e (headSpec wsX4_remembers ({ frames := 0, cells := 0, slots := 0, locals := 0 } : Room)).room s m ([.ref (q 0)] : List Value).toArray below meth c H locs 0 0 (MQ below (pm_Qv D (fun (u : Nat → Int32) => pm_MH u (pm_kn 6) (pm_push Hs 6 S)) (fun (u : Nat → Int32) => pm_mo y q S u gs (pm_kn 6) ln sv pd) (pm_mo y q S gp gs 6 ln sv pd)) ([.ref (q 0)] : List Value).toArray s 0 0 (pm_ad (pm_mo y q S gp gs 6 ln sv pd))) (F0 m 11 ls []) := by
      intro n
      induction n with
      | zero => intro k _ _ _ _ _ _ hi hn; omega
      | succ n ih4 =>
        intro k ls H locs  hP hD hS hi_k hn_k hl 
        refine lv_iload_n hx hb dX4_remembers_11 rfl (lv_at hl 1 rfl) ?_
        refine lv_sipush (v := nI 860) hx hb dX4_remembers_12 (by decide) ?_
        refine kx_icmp_ge (tgt := 40) hx hb (by omega) (by decide) dX4_remembers_15 (by decide) (fun c5 => ?_) (fun c5 => ?_)
        · skip
          obtain rfl : k = 860 := by omega
          refine lv_aload_n hx hb dX4_remembers_40 rfl (lv_at hl 0 rfl) ?_
          refine lv_dup hx hb dX4_remembers_41 rfl ?_
          refine va_get (D := D) (ci := 4) (v := .int (nI 6)) (C := RX4) (T := TX4) (N := 7) hx hb hts hin4 hown hK hP 0 rfl rfl 2 (by decide) (hts (.fieldLink RX4 37 "ProofMarksModel" "known" "I") (List.mem_of_getElem? (i := 1) rfl)) (fun _ h9 => h9) rfl dX4_remembers_42 ?_
          refine lv_iconst (v := nI 1) hx hb dX4_remembers_45 (by decide) ?_
          refine kx_isub hx hb (by omega) dX4_remembers_46 ?_
          refine lv_topi (fun x6 e7 => ?_)
          obtain rfl : x6 = nI 5 := e7.trans (rfl)
          refine kx_put (D := D) (ci := 4) (v := .int (nI 5)) (ty := .int) (ws' := pm_mo y q S (pm_sh1 gp 860) gs 5 ln sv pd) (C := RX4) (T := TX4) (N := 7) hx hb hts hin4 tyX4 tyX4_ok nmX4 hown hK hP hD hS 0 rfl rfl 2 (by decide) (hts (.fieldLink RX4 37 "ProofMarksModel" "known" "I") (List.mem_of_getElem? (i := 1) rfl)) (fun _ h9 => h9) rfl (by decide +kernel) rfl rfl (Nat.le_of_ble_eq_true rfl) rfl dX4_remembers_47 (fun H locs hP hD hS => ?_)
          refine lv_iconst (v := nI 0) hx hb dX4_remembers_50 (by decide) ?_
          refine lv_istore_n (lv' := [(1, .int (nI 0)), (0, .ref (q 0))]) hx hb dX4_remembers_51 rfl hl (by decide) rfl (fun ls hl => ?_)
          have LOOP52 : ∀ (n j : Nat) (ls : Array Slot) (H : Heap) (locs : List Loc), va_P D vwCl (pm_mo y q S (pm_sh2 (pm_sh1 gp 860) 860 S j) gs 5 ln sv pd) H → va_D (pm_ad (pm_mo y q S gp gs 6 ln sv pd)) (pm_mo y q S (pm_sh2 (pm_sh1 gp 860) 860 S j) gs 5 ln sv pd) → va_S (pm_ad (pm_mo y q S gp gs 6 ln sv pd)) s.heap H locs → j ≤ 172 → 172 - j < n → lv_has ls 2 [(0, .ref (q 0)), (1, .int (nI j))] → W p l e (headSpec wsX4_remembers ({ frames := 0, cells := 0, slots := 0, locals := 0 } : Room)).room s m ([.ref (q 0)] : List Value).toArray below meth c H locs 0 0 (MQ below (pm_Qv D (fun (u : Nat → Int32) => pm_MH u (pm_kn 6) (pm_push Hs 6 S)) (fun (u : Nat → Int32) => pm_mo y q S u gs (pm_kn 6) ln sv pd) (pm_mo y q S gp gs 6 ln sv pd)) ([.ref (q 0)] : List Value).toArray s 0 0 (pm_ad (pm_mo y q S gp gs 6 ln sv pd))) (F0 m 52 ls []) := by
            intro n
            induction n with
            | zero => intro j _ _ _ _ _ _ hi hn; omega
            | succ n ih8 =>
              intro j ls H locs  hP hD hS hi_j hn_j hl 
              refine lv_iload_n hx hb dX4_remembers_52 rfl (lv_at hl 1 rfl) ?_
              refine lv_sipush (v := nI 172) hx hb dX4_remembers_53 (by decide) ?_
              refine kx_icmp_ge (tgt := 86) hx hb (by omega) (by decide) dX4_remembers_56 (by decide) (fun c9 => ?_) (fun c9 => ?_)
              · skip
                obtain rfl : j = 172 := by omega
                refine lv_aload_n hx hb dX4_remembers_86 rfl (lv_at hl 0 rfl) ?_
                refine lv_dup hx hb dX4_remembers_87 rfl ?_
                refine va_get (D := D) (ci := 4) (v := .int (nI 5)) (C := RX4) (T := TX4) (N := 7) hx hb hts hin4 hown hK hP 0 rfl rfl 2 (by decide) (hts (.fieldLink RX4 37 "ProofMarksModel" "known" "I") (List.mem_of_getElem? (i := 1) rfl)) (fun _ h9 => h9) rfl dX4_remembers_88 ?_
                refine lv_iconst (v := nI 1) hx hb dX4_remembers_91 (by decide) ?_
                refine kx_iadd hx hb dX4_remembers_92 ?_
                refine lv_topi (fun x10 e11 => ?_)
                obtain rfl : x10 = nI 6 := e11.trans (rfl)
                refine kx_put (D := D) (ci := 4) (v := .int (nI 6)) (ty := .int) (ws' := pm_mo y q S (pm_sh2 (pm_sh1 gp 860) 860 S 172) gs 6 ln sv pd) (C := RX4) (T := TX4) (N := 7) hx hb hts hin4 tyX4 tyX4_ok nmX4 hown hK hP hD hS 0 rfl rfl 2 (by decide) (hts (.fieldLink RX4 37 "ProofMarksModel" "known" "I") (List.mem_of_getElem? (i := 1) rfl)) (fun _ h9 => h9) rfl (by decide +kernel) rfl rfl (Nat.le_of_ble_eq_true rfl) rfl dX4_remembers_93 (fun H locs hP hD hS => ?_)
                exact W.vret hx hb hr (fun t ht _ => ⟨⟨(pm_sh2 (pm_sh1 gp 860) 860 S 172), rfl, (pm_rem_6 hM), (by show va_P D vwCl (pm_mo y q S (pm_sh2 (pm_sh1 gp 860) 860 S 172) gs (pm_kn 6) ln sv pd) t.heap; rw [ht]; exact hP)⟩, hS.F ht⟩) hS.2.2 dX4_remembers_96
              · skip
                refine lv_aload_n hx hb dX4_remembers_59 rfl (lv_at hl 0 rfl) ?_
                refine va_get (D := D) (ci := 4) (v := .ref (q 2)) (C := RX4) (T := TX4) (N := 7) hx hb hts hin4 hown hK hP 0 rfl rfl 1 (by decide) (hts (.fieldLink RX4 13 "ProofMarksModel" "past" "[I") (List.mem_of_getElem? (i := 2) rfl)) (fun _ h9 => h9) rfl dX4_remembers_60 ?_
                refine lv_sipush (v := nI 172) hx hb dX4_remembers_63 (by decide) ?_
                refine lv_aload_n hx hb dX4_remembers_66 rfl (lv_at hl 0 rfl) ?_
                refine va_get (D := D) (ci := 4) (v := .int (nI 5)) (C := RX4) (T := TX4) (N := 7) hx hb hts hin4 hown hK hP 0 rfl rfl 2 (by decide) (hts (.fieldLink RX4 37 "ProofMarksModel" "known" "I") (List.mem_of_getElem? (i := 1) rfl)) (fun _ h9 => h9) rfl dX4_remembers_67 ?_
                refine kx_imul hx hb dX4_remembers_70 ?_
                refine lv_topi (fun x12 e13 => ?_)
                obtain rfl : x12 = nI 860 := e13.trans (rfl)
                refine lv_iload_n hx hb dX4_remembers_71 rfl (lv_at hl 1 rfl) ?_
                refine kx_iadd hx hb dX4_remembers_72 ?_
                refine lv_aload_n hx hb dX4_remembers_73 rfl (lv_at hl 0 rfl) ?_
                refine va_get (D := D) (ci := 4) (v := .ref (q 1)) (C := RX4) (T := TX4) (N := 7) hx hb hts hin4 hown hK hP 0 rfl rfl 0 (by decide) (hts (.fieldLink RX4 7 "ProofMarksModel" "s" "[I") (List.mem_of_getElem? (i := 3) rfl)) (fun _ h9 => h9) rfl dX4_remembers_74 ?_
                refine lv_iload_n hx hb dX4_remembers_77 rfl (lv_at hl 1 rfl) ?_
                refine kx_iald (v := pm_ms S j) hx hb hK hP 1 0 rfl rfl (by omega) (by decide) rfl dX4_remembers_78 ?_
                refine kx_iast (ws' := pm_mo y q S (pm_sh2 (pm_sh1 gp 860) 860 S (j + 1)) gs 5 ln sv pd) hx hb hK hP hD hS 2 0 rfl rfl (by omega) (by decide) (pm_sh2_s (pm_sh1 gp 860) 860 S j) rfl dX4_remembers_79 (fun H locs hP hD hS => ?_)
                refine kx_iinc (a := j) (lv' := [(1, .int (nI (j + 1))), (0, .ref (q 0))]) hx hb dX4_remembers_80 hl (k := 1) rfl (by decide) rfl (fun ls hl => ?_)
                refine lv_goto (tgt := 52) hx hb dX4_remembers_83 (by decide) ?_
                exact ih8 (j + 1) ls H locs hP hD hS (by omega) (by omega) (by exact lv_sub hl [1, 0] rfl) 
          exact LOOP52 (172 + 1) 0 ls H locs (by rw [pm_sh2_0]; exact hP) (by rw [pm_sh2_0]; exact hD) hS (by omega) (by omega) (lv_sub hl [1, 0] rfl) 
        · skip
          refine lv_aload_n hx hb dX4_remembers_18 rfl (lv_at hl 0 rfl) ?_
          refine va_get (D := D) (ci := 4) (v := .ref (q 2)) (C := RX4) (T := TX4) (N := 7) hx hb hts hin4 hown hK hP 0 rfl rfl 1 (by decide) (hts (.fieldLink RX4 13 "ProofMarksModel" "past" "[I") (List.mem_of_getElem? (i := 2) rfl)) (fun _ h9 => h9) rfl dX4_remembers_19 ?_
          refine lv_iload_n hx hb dX4_remembers_22 rfl (lv_at hl 1 rfl) ?_
          refine lv_aload_n hx hb dX4_remembers_23 rfl (lv_at hl 0 rfl) ?_
          refine va_get (D := D) (ci := 4) (v := .ref (q 2)) (C := RX4) (T := TX4) (N := 7) hx hb hts hin4 hown hK hP 0 rfl rfl 1 (by decide) (hts (.fieldLink RX4 13 "ProofMarksModel" "past" "[I") (List.mem_of_getElem? (i := 2) rfl)) (fun _ h9 => h9) rfl dX4_remembers_24 ?_
          refine lv_sipush (v := nI 172) hx hb dX4_remembers_27 (by decide) ?_
          refine lv_iload_n hx hb dX4_remembers_30 rfl (lv_at hl 1 rfl) ?_
          refine kx_iadd hx hb dX4_remembers_31 ?_
          refine kx_iald (v := (pm_sh1 gp k) (172 + k)) hx hb hK hP 2 0 rfl rfl (by omega) (by decide) rfl dX4_remembers_32 ?_
          refine kx_iast (ws' := pm_mo y q S (pm_sh1 gp (k + 1)) gs 6 ln sv pd) hx hb hK hP hD hS 2 0 rfl rfl (by omega) (by decide) (pm_sh1_s gp k) rfl dX4_remembers_33 (fun H locs hP hD hS => ?_)
          refine kx_iinc (a := k) (lv' := [(1, .int (nI (k + 1))), (0, .ref (q 0))]) hx hb dX4_remembers_34 hl (k := 1) rfl (by decide) rfl (fun ls hl => ?_)
          refine lv_goto (tgt := 11) hx hb dX4_remembers_37 (by decide) ?_
          exact ih4 (k + 1) ls H locs hP hD hS (by omega) (by omega) (by exact lv_sub hl [1, 0] rfl) 
    exact LOOP11 (860 + 1) 0 ls _ _ (by rw [pm_sh1_0]; exact hP) (by rw [pm_sh1_0]; exact hD) hS (by omega) (by omega) (lv_sub hl [1, 0] rfl) 

set_option maxHeartbeats 4000000 in
set_option maxRecDepth 100000 in
theorem k_X4_argues (l : Launch) (D : va_G) (y : Nat → ClassId) (q : Nat → Nat) (S : Nat → Nat → Nat) (gp gs : Nat → Int32) (kn ln : Nat) (sv pd : Nat → Nat) (i k j : Nat) (hI : pm_Inv S) (hi : i < 3) (hk : k < 3) (hj : j < 30) (hne : ¬ i = k) (hmk : pm_mk (S 4 j) k = 2) (hpt : S 9 2 ≤ S 5 i) : Met l yX4_argues wsX4_argues ({ frames := 3, cells := 0, slots := 0, locals := 66 } : Room) (pm_wr D (pm_ty y) [.ref (q 0), .int (nI i), .int (nI k), .int (nI j)] (pm_mo y q S gp gs kn ln sv pd)) (pm_Qi D (fun (r : Int32) (_ : Unit) => r = (pm_aArgue S (nI i) (nI k) (nI j)).1) (fun (_ : Unit) => pm_mo y q (pm_aArgue S (nI i) (nI k) (nI j)).2 gp gs kn ln sv pd) (pm_mo y q S gp gs kn ln sv pd)) 0 0 (pm_ad (pm_mo y q S gp gs kn ln sv pd)) := by
  refine Met.ofW (cc := cX4_argues) (maxL := 5) (ret := (some .int)) (by decide) rfl ?_
  intro p e s m args below meth c s₁ B hml hpre
  obtain ⟨rfl, hP, hK, hD0⟩ := hpre
  have hx := B.exec
  have hb := B.bytes
  have hr := B.returns
  have hts := atoms_spec (ws := wsX4_argues) B.pre
  have hown : s.vm.findClass RX4 = some m.cls := findClass_of_methodNamed B.named
  have hlocks := B.notSynchronized
  have hin4 : ∀ w ∈ u_ws RX4 TX4 7, w ∈ wsX4_argues := fun w h => List.mem_cons_of_mem _ (List.mem_append_right _ h)
  have hD := pm_ad_self hD0
  have hS : va_S (pm_ad (pm_mo y q S gp gs kn ln sv pd)) s.heap s.heap [] := va_S.rf
  have hP : va_P D vwCl (pm_mo y q S gp gs kn ln sv pd) s.heap := hP
  have hl := lv_entry ([.ref (q 0), .int (nI i), .int (nI k), .int (nI j)]) (n := 5) (Nat.le_of_ble_eq_true rfl)
  rw [lg_entry_eq]
  generalize (lg_sl ([.ref (q 0), .int (nI i), .int (nI k), .int (nI j)]) ++ List.replicate (5 - (lg_sl ([.ref (q 0), .int (nI i), .int (nI k), .int (nI j)])).length) Slot.unset).toArray = ls at hl ⊢
  have hl : lv_has ls 5 [(0, .ref (q 0)), (1, .int (nI i)), (2, .int (nI k)), (3, .int (nI j))] := hl
  refine lv_aload_n hx hb dX4_argues_0 rfl (lv_at hl 0 rfl) ?_
  refine va_get (D := D) (ci := 4) (v := .ref (q 1)) (C := RX4) (T := TX4) (N := 7) hx hb hts hin4 hown hK hP 0 rfl rfl 0 (by decide) (hts (.fieldLink RX4 7 "ProofMarksModel" "s" "[I") (List.mem_of_getElem? (i := 1) rfl)) (fun _ h9 => h9) rfl dX4_argues_1 ?_
  refine lv_sipush (v := nI 164) hx hb dX4_argues_4 (by decide) ?_
  refine kx_iald (v := nI (S 9 2)) hx hb hK hP 1 0 rfl rfl (by omega) (by decide) (pm_ms_s (S := S) (k := 2) (by omega)) dX4_argues_7 ?_
  have := hI.set9 2 (by omega)
  refine lv_istore (lv' := [(4, .int (nI (S 9 2))), (0, .ref (q 0)), (1, .int (nI i)), (2, .int (nI k)), (3, .int (nI j))]) hx hb dX4_argues_8 hl (by decide) rfl (fun ls hl => ?_)
  refine lv_aload_n hx hb dX4_argues_10 rfl (lv_at hl 1 rfl) ?_
  refine va_get (D := D) (ci := 4) (v := .ref (q 1)) (C := RX4) (T := TX4) (N := 7) hx hb hts hin4 hown hK hP 0 rfl rfl 0 (by decide) (hts (.fieldLink RX4 7 "ProofMarksModel" "s" "[I") (List.mem_of_getElem? (i := 1) rfl)) (fun _ h9 => h9) rfl dX4_argues_11 ?_
  refine lv_iload_n hx hb dX4_argues_14 rfl (lv_at hl 2 rfl) ?_
  refine lv_iconst (v := nI 0) hx hb dX4_argues_15 (by decide) ?_
  refine vp_callSi (W.runS (As := [.int (nI i), .int (nI 0)]) (rest := [.ref (q 1)]) ⟨hx, hb, hml, hown, hts⟩ (k_X4_of3 l i 0) (va_cwS 2 hts gX4_argues_X4_of3 rfl rfl rfl hd_X4_of3 ⟨Nat.le_of_ble_eq_true rfl, Nat.le_of_ble_eq_true rfl⟩) ⟨pm_no_blind, pm_no_pre⟩ rfl rfl hl.1 rfl (lv_room (Nat.le_of_ble_eq_true rfl)) dX4_argues_16 ⟨Nat.le_of_ble_eq_true rfl, Nat.le_of_ble_eq_true rfl⟩) (fun r1 h2 => ?_)
  obtain rfl : r1 = nI (150 + 4 * i + 0) := h2
  refine lv_dup2_11 hx hb dX4_argues_19 rfl rfl ?_
  refine kx_iald (v := nI (S 5 i)) hx hb hK hP 1 0 rfl rfl (by omega) (by decide) (pm_ms_e (S := S) (e := i) 0 (by decide) (by omega)) dX4_argues_20 ?_
  have := hI.pts i (by omega)
  refine lv_iload hx hb dX4_argues_21 (lv_at hl 0 rfl) ?_
  refine kx_isub hx hb (by omega) dX4_argues_23 ?_
  refine kx_iast (ws' := pm_mo y q (pm_st S 5 i ((S 5 i) - (S 9 2))) gp gs kn ln sv pd) hx hb hK hP hD hS 1 0 rfl rfl (by omega) (by decide) (pm_ms_we (e := i) 0 (by decide) (by omega)) rfl dX4_argues_24 (fun H locs hP hD hS => ?_)
  refine lv_aload_n hx hb dX4_argues_25 rfl (lv_at hl 1 rfl) ?_
  refine va_get (D := D) (ci := 4) (v := .ref (q 1)) (C := RX4) (T := TX4) (N := 7) hx hb hts hin4 hown hK hP 0 rfl rfl 0 (by decide) (hts (.fieldLink RX4 7 "ProofMarksModel" "s" "[I") (List.mem_of_getElem? (i := 1) rfl)) (fun _ h9 => h9) rfl dX4_argues_26 ?_
  refine lv_iload_n hx hb dX4_argues_29 rfl (lv_at hl 2 rfl) ?_
  refine lv_iconst (v := nI 1) hx hb dX4_argues_30 (by decide) ?_
  refine vp_callSi (W.runS (As := [.int (nI i), .int (nI 1)]) (rest := [.ref (q 1)]) ⟨hx, hb, hml, hown, hts⟩ (k_X4_of3 l i 1) (va_cwS 2 hts gX4_argues_X4_of3 rfl rfl rfl hd_X4_of3 ⟨Nat.le_of_ble_eq_true rfl, Nat.le_of_ble_eq_true rfl⟩) ⟨pm_no_blind, pm_no_pre⟩ rfl rfl hl.1 rfl (lv_room (Nat.le_of_ble_eq_true rfl)) dX4_argues_31 ⟨Nat.le_of_ble_eq_true rfl, Nat.le_of_ble_eq_true rfl⟩) (fun r3 h4 => ?_)
  obtain rfl : r3 = nI (150 + 4 * i + 1) := h4
  refine lv_dup2_11 hx hb dX4_argues_34 rfl rfl ?_
  refine kx_iald (v := nI (S 6 i)) hx hb hK hP 1 0 rfl rfl (by omega) (by decide) ((pm_ms_e (S := (pm_st S 5 i ((S 5 i) - (S 9 2)))) (e := i) 1 (by decide) (by omega)).trans (congrArg nI (by simp [pm_st, updN]))) dX4_argues_35 ?_
  refine lv_iconst (v := nI 1) hx hb dX4_argues_36 (by decide) ?_
  refine kx_iadd hx hb dX4_argues_37 ?_
  refine kx_iast (ws' := pm_mo y q (pm_st (pm_st S 5 i ((S 5 i) - (S 9 2))) 6 i ((S 6 i) + 1)) gp gs kn ln sv pd) hx hb hK hP hD hS 1 0 rfl rfl (by omega) (by decide) (pm_ms_we (e := i) 1 (by decide) (by omega)) rfl dX4_argues_38 (fun H locs hP hD hS => ?_)
  refine lv_aload_n hx hb dX4_argues_39 rfl (lv_at hl 1 rfl) ?_
  refine va_get (D := D) (ci := 4) (v := .ref (q 1)) (C := RX4) (T := TX4) (N := 7) hx hb hts hin4 hown hK hP 0 rfl rfl 0 (by decide) (hts (.fieldLink RX4 7 "ProofMarksModel" "s" "[I") (List.mem_of_getElem? (i := 1) rfl)) (fun _ h9 => h9) rfl dX4_argues_40 ?_
  refine lv_iload_n hx hb dX4_argues_43 rfl (lv_at hl 3 rfl) ?_
  refine lv_iconst (v := nI 0) hx hb dX4_argues_44 (by decide) ?_
  refine vp_callSi (W.runS (As := [.int (nI k), .int (nI 0)]) (rest := [.ref (q 1)]) ⟨hx, hb, hml, hown, hts⟩ (k_X4_of3 l k 0) (va_cwS 2 hts gX4_argues_X4_of3 rfl rfl rfl hd_X4_of3 ⟨Nat.le_of_ble_eq_true rfl, Nat.le_of_ble_eq_true rfl⟩) ⟨pm_no_blind, pm_no_pre⟩ rfl rfl hl.1 rfl (lv_room (Nat.le_of_ble_eq_true rfl)) dX4_argues_45 ⟨Nat.le_of_ble_eq_true rfl, Nat.le_of_ble_eq_true rfl⟩) (fun r5 h6 => ?_)
  obtain rfl : r5 = nI (150 + 4 * k + 0) := h6
  refine kx_iald (v := nI ((pm_st (pm_st S 5 i ((S 5 i) - (S 9 2))) 6 i ((S 6 i) + 1)) 5 k)) hx hb hK hP 1 0 rfl rfl (by omega) (by decide) (pm_ms_e (S := (pm_st (pm_st S 5 i ((S 5 i) - (S 9 2))) 6 i ((S 6 i) + 1))) (e := k) 0 (by decide) (by omega)) dX4_argues_48 ?_
  refine lv_topi (fun x7 e8 => ?_)
  obtain rfl : x7 = nI (S 5 k) := e8.trans ((congrArg nI (by simp [pm_st, updN, show ¬ k = i by omega])))
  have := hI.pts k hk
  refine lv_iload hx hb dX4_argues_49 (lv_at hl 0 rfl) ?_
  refine kx_icmp_lt (tgt := 71) hx hb (by omega) (by omega) dX4_argues_51 (by decide) (fun c9 => ?_) (fun c9 => ?_)
  · skip
    refine lv_aload_n hx hb dX4_argues_71 rfl (lv_at hl 1 rfl) ?_
    refine lv_iload_n hx hb dX4_argues_72 rfl (lv_at hl 3 rfl) ?_
    refine lv_iload_n hx hb dX4_argues_73 rfl (lv_at hl 4 rfl) ?_
    refine lv_iconst (v := nI 0) hx hb dX4_argues_74 (by decide) ?_
    refine va_callv (va_runV (As := [.int (nI k), .int (nI j), .int (nI 0)]) (rest := []) ⟨hx, hb, hml, hown, hts⟩ (k_X4_marks l D y q (pm_st (pm_st S 5 i ((S 5 i) - (S 9 2))) 6 i ((S 6 i) + 1)) gp gs kn ln sv pd k j 0 (hI.okm j hj) (by omega) (by omega) (by omega)) (cwV 3 hts gX4_argues_X4_marks rfl rfl rfl hd_X4_marks ⟨Nat.le_of_ble_eq_true rfl, Nat.le_of_ble_eq_true rfl⟩) ⟨pm_wr_blind, va_recv hK hP (ci := 4) (q0 := 0) rfl rfl, pm_wr_pre hP hK hD⟩ rfl rfl hl.1 rfl (lv_room (Nat.le_of_ble_eq_true rfl)) dX4_argues_75 ⟨Nat.le_of_ble_eq_true rfl, Nat.le_of_ble_eq_true rfl⟩) hS (fun q _ h9 => (pm_ad_all hD) q h9) (pm_ad_all hD) (fun u16 t12 H1 locs ht13 _ h11 hB14 _ hk15 hS => ?_)
    obtain ⟨hP, hD⟩ := pm_all (D := D) (cl := vwCl) (H1 := H1) hD (w' := pm_mo y q (pm_st (pm_st (pm_st S 5 i ((S 5 i) - (S 9 2))) 6 i ((S 6 i) + 1)) 4 j (pm_sm ((pm_st (pm_st S 5 i ((S 5 i) - (S 9 2))) 6 i ((S 6 i) + 1)) 4 j) k 0)) gp gs kn ln sv pd) (by rw [← ht13]; exact hB14) rfl
    generalize H1 = H at hP hS ⊢
    refine lv_aload_n hx hb dX4_argues_78 rfl (lv_at hl 1 rfl) ?_
    refine va_get (D := D) (ci := 4) (v := .ref (q 1)) (C := RX4) (T := TX4) (N := 7) hx hb hts hin4 hown hK hP 0 rfl rfl 0 (by decide) (hts (.fieldLink RX4 7 "ProofMarksModel" "s" "[I") (List.mem_of_getElem? (i := 1) rfl)) (fun _ h9 => h9) rfl dX4_argues_79 ?_
    refine lv_iload_n hx hb dX4_argues_82 rfl (lv_at hl 3 rfl) ?_
    refine lv_iconst (v := nI 2) hx hb dX4_argues_83 (by decide) ?_
    refine vp_callSi (W.runS (As := [.int (nI k), .int (nI 2)]) (rest := [.ref (q 1)]) ⟨hx, hb, hml, hown, hts⟩ (k_X4_of3 l k 2) (va_cwS 2 hts gX4_argues_X4_of3 rfl rfl rfl hd_X4_of3 ⟨Nat.le_of_ble_eq_true rfl, Nat.le_of_ble_eq_true rfl⟩) ⟨pm_no_blind, pm_no_pre⟩ rfl rfl hl.1 rfl (lv_room (Nat.le_of_ble_eq_true rfl)) dX4_argues_84 ⟨Nat.le_of_ble_eq_true rfl, Nat.le_of_ble_eq_true rfl⟩) (fun r17 h18 => ?_)
    obtain rfl : r17 = nI (150 + 4 * k + 2) := h18
    refine lv_dup2_11 hx hb dX4_argues_87 rfl rfl ?_
    refine kx_iald (v := nI (S 7 k)) hx hb hK hP 1 0 rfl rfl (by omega) (by decide) ((pm_ms_e (S := (pm_st (pm_st (pm_st S 5 i ((S 5 i) - (S 9 2))) 6 i ((S 6 i) + 1)) 4 j (pm_sm ((pm_st (pm_st S 5 i ((S 5 i) - (S 9 2))) 6 i ((S 6 i) + 1)) 4 j) k 0))) (e := k) 2 (by decide) (by omega)).trans (congrArg nI (by simp [pm_st, updN]))) dX4_argues_88 ?_
    refine lv_iconst (v := nI 1) hx hb dX4_argues_89 (by decide) ?_
    refine kx_iadd hx hb dX4_argues_90 ?_
    refine kx_iast (ws' := pm_mo y q (pm_st (pm_st (pm_st (pm_st S 5 i ((S 5 i) - (S 9 2))) 6 i ((S 6 i) + 1)) 4 j (pm_sm ((pm_st (pm_st S 5 i ((S 5 i) - (S 9 2))) 6 i ((S 6 i) + 1)) 4 j) k 0)) 7 k ((S 7 k) + 1)) gp gs kn ln sv pd) hx hb hK hP hD hS 1 0 rfl rfl (by omega) (by decide) (pm_ms_we (e := k) 2 (by decide) (by omega)) rfl dX4_argues_91 (fun H locs hP hD hS => ?_)
    refine lv_iconst (v := nI 1) hx hb dX4_argues_92 (by decide) ?_
    have E : pm_aArgue S (nI i) (nI k) (nI j) = (nI 1, (pm_st (pm_st (pm_st (pm_st S 5 i ((S 5 i) - (S 9 2))) 6 i ((S 6 i) + 1)) 4 j (pm_sm ((pm_st (pm_st S 5 i ((S 5 i) - (S 9 2))) 6 i ((S 6 i) + 1)) 4 j) k 0)) 7 k ((S 7 k) + 1))) := by simp only [pm_aArgue, pm_ix_in hi (show (3 : Nat) < 2 ^ 31 by decide), pm_ix_in hk (show (3 : Nat) < 2 ^ 31 by decide), pm_ix_in hj (show (30 : Nat) < 2 ^ 31 by decide)] <;> ((repeat' split) <;> first | rfl | (exfalso; omega))
    exact W.iret hx hb hr (fun t ht _ => ⟨⟨_, (), rfl, (by rw [E]), (by show va_P D vwCl (pm_mo y q (pm_aArgue S (nI i) (nI k) (nI j)).2 gp gs kn ln sv pd) t.heap; rw [ht]; exact (by rw [E]; exact hP))⟩, hS.F ht⟩) hS.2.2 dX4_argues_93
  · skip
    refine lv_aload_n hx hb dX4_argues_54 rfl (lv_at hl 1 rfl) ?_
    refine va_get (D := D) (ci := 4) (v := .ref (q 1)) (C := RX4) (T := TX4) (N := 7) hx hb hts hin4 hown hK hP 0 rfl rfl 0 (by decide) (hts (.fieldLink RX4 7 "ProofMarksModel" "s" "[I") (List.mem_of_getElem? (i := 1) rfl)) (fun _ h9 => h9) rfl dX4_argues_55 ?_
    refine lv_iload_n hx hb dX4_argues_58 rfl (lv_at hl 3 rfl) ?_
    refine lv_iconst (v := nI 0) hx hb dX4_argues_59 (by decide) ?_
    refine vp_callSi (W.runS (As := [.int (nI k), .int (nI 0)]) (rest := [.ref (q 1)]) ⟨hx, hb, hml, hown, hts⟩ (k_X4_of3 l k 0) (va_cwS 2 hts gX4_argues_X4_of3 rfl rfl rfl hd_X4_of3 ⟨Nat.le_of_ble_eq_true rfl, Nat.le_of_ble_eq_true rfl⟩) ⟨pm_no_blind, pm_no_pre⟩ rfl rfl hl.1 rfl (lv_room (Nat.le_of_ble_eq_true rfl)) dX4_argues_60 ⟨Nat.le_of_ble_eq_true rfl, Nat.le_of_ble_eq_true rfl⟩) (fun r19 h20 => ?_)
    obtain rfl : r19 = nI (150 + 4 * k + 0) := h20
    refine lv_dup2_11 hx hb dX4_argues_63 rfl rfl ?_
    refine kx_iald (v := nI ((pm_st (pm_st S 5 i ((S 5 i) - (S 9 2))) 6 i ((S 6 i) + 1)) 5 k)) hx hb hK hP 1 0 rfl rfl (by omega) (by decide) (pm_ms_e (S := (pm_st (pm_st S 5 i ((S 5 i) - (S 9 2))) 6 i ((S 6 i) + 1))) (e := k) 0 (by decide) (by omega)) dX4_argues_64 ?_
    refine lv_topi (fun x21 e22 => ?_)
    obtain rfl : x21 = nI (S 5 k) := e22.trans ((congrArg nI (by simp [pm_st, updN, show ¬ k = i by omega])))
    have := hI.pts k hk
    refine lv_iload hx hb dX4_argues_65 (lv_at hl 0 rfl) ?_
    refine kx_isub hx hb (by omega) dX4_argues_67 ?_
    refine kx_iast (ws' := pm_mo y q (pm_st (pm_st (pm_st S 5 i ((S 5 i) - (S 9 2))) 6 i ((S 6 i) + 1)) 5 k ((S 5 k) - (S 9 2))) gp gs kn ln sv pd) hx hb hK hP hD hS 1 0 rfl rfl (by omega) (by decide) (pm_ms_we (e := k) 0 (by decide) (by omega)) rfl dX4_argues_68 (fun H locs hP hD hS => ?_)
    refine lv_iconst (v := nI 0) hx hb dX4_argues_69 (by decide) ?_
    have E : pm_aArgue S (nI i) (nI k) (nI j) = (nI 0, (pm_st (pm_st (pm_st S 5 i ((S 5 i) - (S 9 2))) 6 i ((S 6 i) + 1)) 5 k ((S 5 k) - (S 9 2)))) := by simp only [pm_aArgue, pm_ix_in hi (show (3 : Nat) < 2 ^ 31 by decide), pm_ix_in hk (show (3 : Nat) < 2 ^ 31 by decide), pm_ix_in hj (show (30 : Nat) < 2 ^ 31 by decide)] <;> ((repeat' split) <;> first | rfl | (exfalso; omega))
    exact W.iret hx hb hr (fun t ht _ => ⟨⟨_, (), rfl, (by rw [E]), (by show va_P D vwCl (pm_mo y q (pm_aArgue S (nI i) (nI k) (nI j)).2 gp gs kn ln sv pd) t.heap; rw [ht]; exact (by rw [E]; exact hP))⟩, hS.F ht⟩) hS.2.2 dX4_argues_70

set_option maxHeartbeats 4000000 in
set_option maxRecDepth 100000 in
theorem k_X4_prints (l : Launch) (D : va_G) (y : Nat → ClassId) (q : Nat → Nat) (S : Nat → Nat → Nat) (gp gs : Nat → Int32) (kn ln : Nat) (sv pd : Nat → Nat) (j w : Nat) (hI : pm_Inv S) (hj : j < 30) (hw : w < 4) (hw0 : 0 < w) (hpp : 10 * w * w ≤ S 10 1) : Met l yX4_prints wsX4_prints ({ frames := 1, cells := 0, slots := 0, locals := 21 } : Room) (pm_wr D (pm_ty y) [.ref (q 0), .int (nI j), .int (nI w)] (pm_mo y q S gp gs kn ln sv pd)) (pm_Qi D (fun (r : Int32) (_ : Unit) => r = nI (S 10 1 - 10 * w * w)) (fun (_ : Unit) => pm_mo y q (pm_st (pm_st (pm_st (pm_st (pm_st S 0 j 3) 2 j w) 10 1 (S 10 1 - 10 * w * w)) 10 2 (S 10 2 + 10 * w * w)) 11 w (S 11 w + 1)) gp gs kn ln sv pd) (pm_mo y q S gp gs kn ln sv pd)) 0 0 (pm_ad (pm_mo y q S gp gs kn ln sv pd)) := by
  refine Met.ofW (cc := cX4_prints) (maxL := 3) (ret := (some .int)) (by decide) rfl ?_
  intro p e s m args below meth c s₁ B hml hpre
  obtain ⟨rfl, hP, hK, hD0⟩ := hpre
  have hx := B.exec
  have hb := B.bytes
  have hr := B.returns
  have hts := atoms_spec (ws := wsX4_prints) B.pre
  have hown : s.vm.findClass RX4 = some m.cls := findClass_of_methodNamed B.named
  have hlocks := B.notSynchronized
  have hin4 : ∀ w ∈ u_ws RX4 TX4 7, w ∈ wsX4_prints := fun w h => List.mem_cons_of_mem _ (List.mem_append_right _ h)
  have hD := pm_ad_self hD0
  have hS : va_S (pm_ad (pm_mo y q S gp gs kn ln sv pd)) s.heap s.heap [] := va_S.rf
  have hP : va_P D vwCl (pm_mo y q S gp gs kn ln sv pd) s.heap := hP
  have hl := lv_entry ([.ref (q 0), .int (nI j), .int (nI w)]) (n := 3) (Nat.le_of_ble_eq_true rfl)
  rw [lg_entry_eq]
  generalize (lg_sl ([.ref (q 0), .int (nI j), .int (nI w)]) ++ List.replicate (3 - (lg_sl ([.ref (q 0), .int (nI j), .int (nI w)])).length) Slot.unset).toArray = ls at hl ⊢
  have hl : lv_has ls 3 [(0, .ref (q 0)), (1, .int (nI j)), (2, .int (nI w))] := hl
  refine lv_aload_n hx hb dX4_prints_0 rfl (lv_at hl 0 rfl) ?_
  refine va_get (D := D) (ci := 4) (v := .ref (q 1)) (C := RX4) (T := TX4) (N := 7) hx hb hts hin4 hown hK hP 0 rfl rfl 0 (by decide) (hts (.fieldLink RX4 7 "ProofMarksModel" "s" "[I") (List.mem_of_getElem? (i := 1) rfl)) (fun _ h9 => h9) rfl dX4_prints_1 ?_
  refine lv_iload_n hx hb dX4_prints_4 rfl (lv_at hl 1 rfl) ?_
  refine lv_iconst (v := nI 0) hx hb dX4_prints_5 (by decide) ?_
  refine vp_callSi (W.runS (As := [.int (nI j), .int (nI 0)]) (rest := [.ref (q 1)]) ⟨hx, hb, hml, hown, hts⟩ (k_X4_at l j 0) (va_cwS 2 hts gX4_prints_X4_at rfl rfl rfl hd_X4_at ⟨Nat.le_of_ble_eq_true rfl, Nat.le_of_ble_eq_true rfl⟩) ⟨pm_no_blind, pm_no_pre⟩ rfl rfl hl.1 rfl (lv_room (Nat.le_of_ble_eq_true rfl)) dX4_prints_6 ⟨Nat.le_of_ble_eq_true rfl, Nat.le_of_ble_eq_true rfl⟩) (fun r1 h2 => ?_)
  obtain rfl : r1 = nI (5 * j + 0) := h2
  refine lv_iconst (v := nI 3) hx hb dX4_prints_9 (by decide) ?_
  refine kx_iast (ws' := pm_mo y q (pm_st S 0 j 3) gp gs kn ln sv pd) hx hb hK hP hD hS 1 0 rfl rfl (by omega) (by decide) (pm_ms_wf (f := j) 0 (by decide) (by decide) (by omega)) rfl dX4_prints_10 (fun H locs hP hD hS => ?_)
  refine lv_aload_n hx hb dX4_prints_11 rfl (lv_at hl 0 rfl) ?_
  refine va_get (D := D) (ci := 4) (v := .ref (q 1)) (C := RX4) (T := TX4) (N := 7) hx hb hts hin4 hown hK hP 0 rfl rfl 0 (by decide) (hts (.fieldLink RX4 7 "ProofMarksModel" "s" "[I") (List.mem_of_getElem? (i := 1) rfl)) (fun _ h9 => h9) rfl dX4_prints_12 ?_
  refine lv_iload_n hx hb dX4_prints_15 rfl (lv_at hl 1 rfl) ?_
  refine lv_iconst (v := nI 2) hx hb dX4_prints_16 (by decide) ?_
  refine vp_callSi (W.runS (As := [.int (nI j), .int (nI 2)]) (rest := [.ref (q 1)]) ⟨hx, hb, hml, hown, hts⟩ (k_X4_at l j 2) (va_cwS 2 hts gX4_prints_X4_at rfl rfl rfl hd_X4_at ⟨Nat.le_of_ble_eq_true rfl, Nat.le_of_ble_eq_true rfl⟩) ⟨pm_no_blind, pm_no_pre⟩ rfl rfl hl.1 rfl (lv_room (Nat.le_of_ble_eq_true rfl)) dX4_prints_17 ⟨Nat.le_of_ble_eq_true rfl, Nat.le_of_ble_eq_true rfl⟩) (fun r3 h4 => ?_)
  obtain rfl : r3 = nI (5 * j + 2) := h4
  refine lv_iload_n hx hb dX4_prints_20 rfl (lv_at hl 2 rfl) ?_
  refine kx_iast (ws' := pm_mo y q (pm_st (pm_st S 0 j 3) 2 j w) gp gs kn ln sv pd) hx hb hK hP hD hS 1 0 rfl rfl (by omega) (by decide) (pm_ms_wf (f := j) 2 (by decide) (by decide) (by omega)) rfl dX4_prints_21 (fun H locs hP hD hS => ?_)
  refine lv_aload_n hx hb dX4_prints_22 rfl (lv_at hl 0 rfl) ?_
  refine va_get (D := D) (ci := 4) (v := .ref (q 1)) (C := RX4) (T := TX4) (N := 7) hx hb hts hin4 hown hK hP 0 rfl rfl 0 (by decide) (hts (.fieldLink RX4 7 "ProofMarksModel" "s" "[I") (List.mem_of_getElem? (i := 1) rfl)) (fun _ h9 => h9) rfl dX4_prints_23 ?_
  refine lv_sipush (v := nI 167) hx hb dX4_prints_26 (by decide) ?_
  refine lv_dup2_11 hx hb dX4_prints_29 rfl rfl ?_
  refine kx_iald (v := nI (S 10 1)) hx hb hK hP 1 0 rfl rfl (by omega) (by decide) ((pm_ms_r (S := (pm_st (pm_st S 0 j 3) 2 j w)) (k := 1) (by decide)).trans (congrArg nI (by simp [pm_st, updN]))) dX4_prints_30 ?_
  have := hI.pap
  refine lv_iload_n hx hb dX4_prints_31 rfl (lv_at hl 2 rfl) ?_
  refine vp_callSi (W.runS (As := [.int (nI w)]) (rest := [.int (nI (S 10 1)), .int (nI 167), .ref (q 1)]) ⟨hx, hb, hml, hown, hts⟩ (k_X4_paperOf l w) (va_cwS 1 hts gX4_prints_X4_paperOf rfl rfl rfl hd_X4_paperOf ⟨Nat.le_of_ble_eq_true rfl, Nat.le_of_ble_eq_true rfl⟩) ⟨pm_no_blind, pm_no_pre⟩ rfl rfl hl.1 rfl (lv_room (Nat.le_of_ble_eq_true rfl)) dX4_prints_32 ⟨Nat.le_of_ble_eq_true rfl, Nat.le_of_ble_eq_true rfl⟩) (fun r5 h6 => ?_)
  obtain rfl : r5 = nI (10 * w * w) := h6
  refine kx_isub hx hb (by omega) dX4_prints_35 ?_
  refine kx_iast (ws' := pm_mo y q (pm_st (pm_st (pm_st S 0 j 3) 2 j w) 10 1 ((S 10 1) - (10 * w * w))) gp gs kn ln sv pd) hx hb hK hP hD hS 1 0 rfl rfl (by omega) (by decide) (pm_ms_wr (k := 1) (by decide)) rfl dX4_prints_36 (fun H locs hP hD hS => ?_)
  refine lv_aload_n hx hb dX4_prints_37 rfl (lv_at hl 0 rfl) ?_
  refine va_get (D := D) (ci := 4) (v := .ref (q 1)) (C := RX4) (T := TX4) (N := 7) hx hb hts hin4 hown hK hP 0 rfl rfl 0 (by decide) (hts (.fieldLink RX4 7 "ProofMarksModel" "s" "[I") (List.mem_of_getElem? (i := 1) rfl)) (fun _ h9 => h9) rfl dX4_prints_38 ?_
  refine lv_sipush (v := nI 168) hx hb dX4_prints_41 (by decide) ?_
  refine lv_dup2_11 hx hb dX4_prints_44 rfl rfl ?_
  refine kx_iald (v := nI (S 10 2)) hx hb hK hP 1 0 rfl rfl (by omega) (by decide) ((pm_ms_r (S := (pm_st (pm_st (pm_st S 0 j 3) 2 j w) 10 1 ((S 10 1) - (10 * w * w)))) (k := 2) (by decide)).trans (congrArg nI (by simp [pm_st, updN]))) dX4_prints_45 ?_
  refine lv_iload_n hx hb dX4_prints_46 rfl (lv_at hl 2 rfl) ?_
  refine vp_callSi (W.runS (As := [.int (nI w)]) (rest := [.int (nI (S 10 2)), .int (nI 168), .ref (q 1)]) ⟨hx, hb, hml, hown, hts⟩ (k_X4_paperOf l w) (va_cwS 1 hts gX4_prints_X4_paperOf rfl rfl rfl hd_X4_paperOf ⟨Nat.le_of_ble_eq_true rfl, Nat.le_of_ble_eq_true rfl⟩) ⟨pm_no_blind, pm_no_pre⟩ rfl rfl hl.1 rfl (lv_room (Nat.le_of_ble_eq_true rfl)) dX4_prints_47 ⟨Nat.le_of_ble_eq_true rfl, Nat.le_of_ble_eq_true rfl⟩) (fun r7 h8 => ?_)
  obtain rfl : r7 = nI (10 * w * w) := h8
  refine kx_iadd hx hb dX4_prints_50 ?_
  refine kx_iast (ws' := pm_mo y q (pm_st (pm_st (pm_st (pm_st S 0 j 3) 2 j w) 10 1 ((S 10 1) - (10 * w * w))) 10 2 ((S 10 2) + (10 * w * w))) gp gs kn ln sv pd) hx hb hK hP hD hS 1 0 rfl rfl (by omega) (by decide) (pm_ms_wr (k := 2) (by decide)) rfl dX4_prints_51 (fun H locs hP hD hS => ?_)
  refine lv_aload_n hx hb dX4_prints_52 rfl (lv_at hl 0 rfl) ?_
  refine va_get (D := D) (ci := 4) (v := .ref (q 1)) (C := RX4) (T := TX4) (N := 7) hx hb hts hin4 hown hK hP 0 rfl rfl 0 (by decide) (hts (.fieldLink RX4 7 "ProofMarksModel" "s" "[I") (List.mem_of_getElem? (i := 1) rfl)) (fun _ h9 => h9) rfl dX4_prints_53 ?_
  refine lv_sipush (v := nI 169) hx hb dX4_prints_56 (by decide) ?_
  refine lv_iload_n hx hb dX4_prints_59 rfl (lv_at hl 2 rfl) ?_
  refine kx_iadd hx hb dX4_prints_60 ?_
  refine lv_iconst (v := nI 1) hx hb dX4_prints_61 (by decide) ?_
  refine kx_isub hx hb (by omega) dX4_prints_62 ?_
  refine lv_topi (fun x9 e10 => ?_)
  obtain rfl : x9 = nI (168 + w) := e10.trans (congrArg nI (by omega))
  refine lv_dup2_11 hx hb dX4_prints_63 rfl rfl ?_
  refine kx_iald (v := nI (S 11 w)) hx hb hK hP 1 0 rfl rfl (by omega) (by decide) ((pm_ms_p (S := (pm_st (pm_st (pm_st (pm_st S 0 j 3) 2 j w) 10 1 ((S 10 1) - (10 * w * w))) 10 2 ((S 10 2) + (10 * w * w)))) (k := w) (by omega)).trans (congrArg nI (by simp [pm_st, updN]))) dX4_prints_64 ?_
  refine lv_iconst (v := nI 1) hx hb dX4_prints_65 (by decide) ?_
  refine kx_iadd hx hb dX4_prints_66 ?_
  refine kx_iast (ws' := pm_mo y q (pm_st (pm_st (pm_st (pm_st (pm_st S 0 j 3) 2 j w) 10 1 ((S 10 1) - (10 * w * w))) 10 2 ((S 10 2) + (10 * w * w))) 11 w ((S 11 w) + 1)) gp gs kn ln sv pd) hx hb hK hP hD hS 1 0 rfl rfl (by omega) (by decide) (pm_ms_wp (k := w) (by omega)) rfl dX4_prints_67 (fun H locs hP hD hS => ?_)
  refine lv_aload_n hx hb dX4_prints_68 rfl (lv_at hl 0 rfl) ?_
  refine va_get (D := D) (ci := 4) (v := .ref (q 1)) (C := RX4) (T := TX4) (N := 7) hx hb hts hin4 hown hK hP 0 rfl rfl 0 (by decide) (hts (.fieldLink RX4 7 "ProofMarksModel" "s" "[I") (List.mem_of_getElem? (i := 1) rfl)) (fun _ h9 => h9) rfl dX4_prints_69 ?_
  refine lv_sipush (v := nI 167) hx hb dX4_prints_72 (by decide) ?_
  refine kx_iald (v := nI ((S 10 1) - (10 * w * w))) hx hb hK hP 1 0 rfl rfl (by omega) (by decide) ((pm_ms_r (S := (pm_st (pm_st (pm_st (pm_st (pm_st S 0 j 3) 2 j w) 10 1 ((S 10 1) - (10 * w * w))) 10 2 ((S 10 2) + (10 * w * w))) 11 w ((S 11 w) + 1))) (k := 1) (by decide)).trans (congrArg nI (by simp [pm_st, updN]))) dX4_prints_75 ?_
  exact W.iret hx hb hr (fun t ht _ => ⟨⟨_, (), rfl, rfl, (by show va_P D vwCl (pm_mo y q (pm_st (pm_st (pm_st (pm_st (pm_st S 0 j 3) 2 j w) 10 1 (S 10 1 - 10 * w * w)) 10 2 (S 10 2 + 10 * w * w)) 11 w (S 11 w + 1)) gp gs kn ln sv pd) t.heap; rw [ht]; exact hP)⟩, hS.F ht⟩) hS.2.2 dX4_prints_76

set_option maxHeartbeats 4000000 in
set_option maxRecDepth 100000 in
theorem k_X4_buys (l : Launch) (D : va_G) (y : Nat → ClassId) (q : Nat → Nat) (S : Nat → Nat → Nat) (gp gs : Nat → Int32) (kn ln : Nat) (sv pd : Nat → Nat) (b : Nat) (hI : pm_Inv S) (hb1 : b < 100) (hb0 : 0 < b) : Met l yX4_buys wsX4_buys ({ frames := 0, cells := 0, slots := 0, locals := 0 } : Room) (pm_wr D (pm_ty y) [.ref (q 0), .int (nI b)] (pm_mo y q S gp gs kn ln sv pd)) (pm_Qi D (fun (r : Int32) (_ : Unit) => r = (pm_aBuy S (nI b)).1) (fun (_ : Unit) => pm_mo y q (pm_aBuy S (nI b)).2 gp gs kn ln sv pd) (pm_mo y q S gp gs kn ln sv pd)) 0 0 (pm_ad (pm_mo y q S gp gs kn ln sv pd)) := by
  refine Met.ofW (cc := cX4_buys) (maxL := 2) (ret := (some .int)) (by decide) rfl ?_
  intro p e s m args below meth c s₁ B hml hpre
  obtain ⟨rfl, hP, hK, hD0⟩ := hpre
  have hx := B.exec
  have hb := B.bytes
  have hr := B.returns
  have hts := atoms_spec (ws := wsX4_buys) B.pre
  have hown : s.vm.findClass RX4 = some m.cls := findClass_of_methodNamed B.named
  have hlocks := B.notSynchronized
  have hin4 : ∀ w ∈ u_ws RX4 TX4 7, w ∈ wsX4_buys := fun w h => List.mem_cons_of_mem _ (List.mem_append_right _ h)
  have hD := pm_ad_self hD0
  have hS : va_S (pm_ad (pm_mo y q S gp gs kn ln sv pd)) s.heap s.heap [] := va_S.rf
  have hP : va_P D vwCl (pm_mo y q S gp gs kn ln sv pd) s.heap := hP
  have hl := lv_entry ([.ref (q 0), .int (nI b)]) (n := 2) (Nat.le_of_ble_eq_true rfl)
  rw [lg_entry_eq]
  generalize (lg_sl ([.ref (q 0), .int (nI b)]) ++ List.replicate (2 - (lg_sl ([.ref (q 0), .int (nI b)])).length) Slot.unset).toArray = ls at hl ⊢
  have hl : lv_has ls 2 [(0, .ref (q 0)), (1, .int (nI b))] := hl
  refine lv_aload_n hx hb dX4_buys_0 rfl (lv_at hl 0 rfl) ?_
  refine va_get (D := D) (ci := 4) (v := .ref (q 1)) (C := RX4) (T := TX4) (N := 7) hx hb hts hin4 hown hK hP 0 rfl rfl 0 (by decide) (hts (.fieldLink RX4 7 "ProofMarksModel" "s" "[I") (List.mem_of_getElem? (i := 1) rfl)) (fun _ h9 => h9) rfl dX4_buys_1 ?_
  refine lv_sipush (v := nI 167) hx hb dX4_buys_4 (by decide) ?_
  refine lv_aload_n hx hb dX4_buys_7 rfl (lv_at hl 0 rfl) ?_
  refine va_get (D := D) (ci := 4) (v := .ref (q 1)) (C := RX4) (T := TX4) (N := 7) hx hb hts hin4 hown hK hP 0 rfl rfl 0 (by decide) (hts (.fieldLink RX4 7 "ProofMarksModel" "s" "[I") (List.mem_of_getElem? (i := 1) rfl)) (fun _ h9 => h9) rfl dX4_buys_8 ?_
  refine lv_sipush (v := nI 167) hx hb dX4_buys_11 (by decide) ?_
  refine kx_iald (v := nI (S 10 1)) hx hb hK hP 1 0 rfl rfl (by omega) (by decide) (pm_ms_r (S := S) (k := 1) (by decide)) dX4_buys_14 ?_
  have := hI.pap
  refine lv_iload_n hx hb dX4_buys_15 rfl (lv_at hl 1 rfl) ?_
  refine kx_iadd hx hb dX4_buys_16 ?_
  refine lv_sipush (v := nI 999) hx hb dX4_buys_17 (by decide) ?_
  refine kx_icmp_le (tgt := 29) hx hb (by omega) (by decide) dX4_buys_20 (by decide) (fun c1 => ?_) (fun c1 => ?_)
  · skip
    refine lv_aload_n hx hb dX4_buys_29 rfl (lv_at hl 0 rfl) ?_
    refine va_get (D := D) (ci := 4) (v := .ref (q 1)) (C := RX4) (T := TX4) (N := 7) hx hb hts hin4 hown hK hP 0 rfl rfl 0 (by decide) (hts (.fieldLink RX4 7 "ProofMarksModel" "s" "[I") (List.mem_of_getElem? (i := 1) rfl)) (fun _ h9 => h9) rfl dX4_buys_30 ?_
    refine lv_sipush (v := nI 167) hx hb dX4_buys_33 (by decide) ?_
    refine kx_iald (v := nI (S 10 1)) hx hb hK hP 1 0 rfl rfl (by omega) (by decide) (pm_ms_r (S := S) (k := 1) (by decide)) dX4_buys_36 ?_
    have := hI.pap
    refine lv_iload_n hx hb dX4_buys_37 rfl (lv_at hl 1 rfl) ?_
    refine kx_iadd hx hb dX4_buys_38 ?_
    refine kx_iast (ws' := pm_mo y q (pm_st S 10 1 ((S 10 1) + b)) gp gs kn ln sv pd) hx hb hK hP hD hS 1 0 rfl rfl (by omega) (by decide) (pm_ms_wr (k := 1) (by decide)) rfl dX4_buys_39 (fun H locs hP hD hS => ?_)
    refine lv_aload_n hx hb dX4_buys_40 rfl (lv_at hl 0 rfl) ?_
    refine va_get (D := D) (ci := 4) (v := .ref (q 1)) (C := RX4) (T := TX4) (N := 7) hx hb hts hin4 hown hK hP 0 rfl rfl 0 (by decide) (hts (.fieldLink RX4 7 "ProofMarksModel" "s" "[I") (List.mem_of_getElem? (i := 1) rfl)) (fun _ h9 => h9) rfl dX4_buys_41 ?_
    refine lv_sipush (v := nI 167) hx hb dX4_buys_44 (by decide) ?_
    refine kx_iald (v := nI ((S 10 1) + b)) hx hb hK hP 1 0 rfl rfl (by omega) (by decide) ((pm_ms_r (S := (pm_st S 10 1 ((S 10 1) + b))) (k := 1) (by decide)).trans (congrArg nI (by simp [pm_st, updN]))) dX4_buys_47 ?_
    have E : pm_aBuy S (nI b) = (nI ((S 10 1) + b), (pm_st S 10 1 ((S 10 1) + b))) := by simp only [pm_aBuy, pm_ix_in hb1 (show (100 : Nat) < 2 ^ 31 by decide)] <;> ((repeat' split) <;> first | rfl | (exfalso; omega))
    exact W.iret hx hb hr (fun t ht _ => ⟨⟨_, (), rfl, (by rw [E]), (by show va_P D vwCl (pm_mo y q (pm_aBuy S (nI b)).2 gp gs kn ln sv pd) t.heap; rw [ht]; exact (by rw [E]; exact hP))⟩, hS.F ht⟩) hS.2.2 dX4_buys_48
  · skip
    refine lv_sipush (v := nI 999) hx hb dX4_buys_23 (by decide) ?_
    refine lv_goto (tgt := 39) hx hb dX4_buys_26 (by decide) ?_
    refine kx_iast (ws' := pm_mo y q (pm_st S 10 1 999) gp gs kn ln sv pd) hx hb hK hP hD hS 1 0 rfl rfl (by omega) (by decide) (pm_ms_wr (k := 1) (by decide)) rfl dX4_buys_39 (fun H locs hP hD hS => ?_)
    refine lv_aload_n hx hb dX4_buys_40 rfl (lv_at hl 0 rfl) ?_
    refine va_get (D := D) (ci := 4) (v := .ref (q 1)) (C := RX4) (T := TX4) (N := 7) hx hb hts hin4 hown hK hP 0 rfl rfl 0 (by decide) (hts (.fieldLink RX4 7 "ProofMarksModel" "s" "[I") (List.mem_of_getElem? (i := 1) rfl)) (fun _ h9 => h9) rfl dX4_buys_41 ?_
    refine lv_sipush (v := nI 167) hx hb dX4_buys_44 (by decide) ?_
    refine kx_iald (v := nI 999) hx hb hK hP 1 0 rfl rfl (by omega) (by decide) ((pm_ms_r (S := (pm_st S 10 1 999)) (k := 1) (by decide)).trans (congrArg nI (by simp [pm_st, updN]))) dX4_buys_47 ?_
    have E : pm_aBuy S (nI b) = (nI 999, (pm_st S 10 1 999)) := by simp only [pm_aBuy, pm_ix_in hb1 (show (100 : Nat) < 2 ^ 31 by decide)] <;> ((repeat' split) <;> first | rfl | (exfalso; omega))
    exact W.iret hx hb hr (fun t ht _ => ⟨⟨_, (), rfl, (by rw [E]), (by show va_P D vwCl (pm_mo y q (pm_aBuy S (nI b)).2 gp gs kn ln sv pd) t.heap; rw [ht]; exact (by rw [E]; exact hP))⟩, hS.F ht⟩) hS.2.2 dX4_buys_48

set_option maxHeartbeats 4000000 in
set_option maxRecDepth 100000 in
theorem k_X4_mark (l : Launch) (D : va_G) (y : Nat → ClassId) (q : Nat → Nat) (S : Nat → Nat → Nat) (gp gs : Nat → Int32) (kn ln : Nat) (sv pd : Nat → Nat) (Hs : Nat → Nat → Nat → Nat) (xe xf xm : Int32) (hI : pm_Inv S) (hk : kn ≤ 6) (hM : pm_MH gp kn Hs) : Met l yX4_mark wsX4_mark ({ frames := 4, cells := 0, slots := 0, locals := 91 } : Room) (pm_wr D (pm_ty y) [.ref (q 0), .int xe, .int xf, .int xm] (pm_mo y q S gp gs kn ln sv pd)) (pm_Qi D (fun (r : Int32) (u : Nat → Int32) => r = (pm_aMark S xe xf xm).1 ∧ pm_MH u (pm_k2 (pm_aMark S xe xf xm).1 kn) (pm_h2 (pm_aMark S xe xf xm).1 Hs kn S)) (fun (u : Nat → Int32) => pm_mo y q (pm_aMark S xe xf xm).2 u gs (pm_k2 (pm_aMark S xe xf xm).1 kn) ln sv pd) (pm_mo y q S gp gs kn ln sv pd)) 0 0 (pm_ad (pm_mo y q S gp gs kn ln sv pd)) := by
  refine Met.ofW (cc := cX4_mark) (maxL := 6) (ret := (some .int)) (by decide) rfl ?_
  intro p e s m args below meth c s₁ B hml hpre
  obtain ⟨rfl, hP, hK, hD0⟩ := hpre
  have hx := B.exec
  have hb := B.bytes
  have hr := B.returns
  have hts := atoms_spec (ws := wsX4_mark) B.pre
  have hown : s.vm.findClass RX4 = some m.cls := findClass_of_methodNamed B.named
  have hlocks := B.notSynchronized
  have hin4 : ∀ w ∈ u_ws RX4 TX4 7, w ∈ wsX4_mark := fun w h => List.mem_cons_of_mem _ (List.mem_append_right _ h)
  have hD := pm_ad_self hD0
  have hS : va_S (pm_ad (pm_mo y q S gp gs kn ln sv pd)) s.heap s.heap [] := va_S.rf
  have hP : va_P D vwCl (pm_mo y q S gp gs kn ln sv pd) s.heap := hP
  have hl := lv_entry ([.ref (q 0), .int xe, .int xf, .int xm]) (n := 6) (Nat.le_of_ble_eq_true rfl)
  rw [lg_entry_eq]
  generalize (lg_sl ([.ref (q 0), .int xe, .int xf, .int xm]) ++ List.replicate (6 - (lg_sl ([.ref (q 0), .int xe, .int xf, .int xm])).length) Slot.unset).toArray = ls at hl ⊢
  have hl : lv_has ls 6 [(0, .ref (q 0)), (1, .int xe), (2, .int xf), (3, .int xm)] := hl
  refine lv_aload_n hx hb dX4_mark_0 rfl (lv_at hl 0 rfl) ?_
  refine lv_iload_n hx hb dX4_mark_1 rfl (lv_at hl 1 rfl) ?_
  refine lv_iload_n hx hb dX4_mark_2 rfl (lv_at hl 2 rfl) ?_
  refine lv_iload_n hx hb dX4_mark_3 rfl (lv_at hl 3 rfl) ?_
  refine vp_callSi (W.runV (As := [.int xe, .int xf, .int xm]) (rest := []) ⟨hx, hb, hml, hown, hts⟩ (k_X4_whyNotMark l D y q S gp gs kn ln sv pd xe xf xm hI) (cwV 3 hts gX4_mark_X4_whyNotMark rfl rfl rfl hd_X4_whyNotMark ⟨Nat.le_of_ble_eq_true rfl, Nat.le_of_ble_eq_true rfl⟩) ⟨pm_ro_blind, va_recv hK hP (ci := 4) (q0 := 0) rfl rfl, pm_ro_pre hP hK⟩ rfl rfl hl.1 rfl (lv_room (Nat.le_of_ble_eq_true rfl)) dX4_mark_4 ⟨Nat.le_of_ble_eq_true rfl, Nat.le_of_ble_eq_true rfl⟩) (fun r1 h2 => ?_)
  rcases h2 with ⟨n3, n4, n5, hn3, hn4, hn5, rfl, rfl, rfl, E7, rfl⟩ | ⟨zz6, E7, hzzz6, rfl⟩
  · skip
    refine lv_istore (lv' := [(4, .int (nI 0)), (0, .ref (q 0)), (1, .int (nI n3)), (2, .int (nI n4)), (3, .int (nI n5))]) hx hb dX4_mark_7 hl (by decide) rfl (fun ls hl => ?_)
    refine lv_iload hx hb dX4_mark_9 (lv_at hl 0 rfl) ?_
    refine lv_if_ge (tgt := 17) hx hb dX4_mark_11 (by decide) (fun _ => ?_) (fun c8 => (c8 (by decide)).elim)
    refine lv_aload_n hx hb dX4_mark_17 rfl (lv_at hl 1 rfl) ?_
    refine va_callv (va_runV (As := []) (rest := []) ⟨hx, hb, hml, hown, hts⟩ (k_X4_remembers l D y q S gp gs kn ln sv pd Hs hk hM) (cwV 0 hts gX4_mark_X4_remembers rfl rfl rfl hd_X4_remembers ⟨Nat.le_of_ble_eq_true rfl, Nat.le_of_ble_eq_true rfl⟩) ⟨pm_wr_blind, va_recv hK hP (ci := 4) (q0 := 0) rfl rfl, pm_wr_pre hP hK hD⟩ rfl rfl hl.1 rfl (lv_room (Nat.le_of_ble_eq_true rfl)) dX4_mark_18 ⟨Nat.le_of_ble_eq_true rfl, Nat.le_of_ble_eq_true rfl⟩) hS (fun q _ h9 => (pm_ad_all hD) q h9) (pm_ad_all hD) (fun u15 t11 H1 locs ht12 _ h10 hB13 _ hk14 hS => ?_)
    obtain ⟨hP, hD⟩ := pm_all (D := D) (cl := vwCl) (H1 := H1) hD (w' := pm_mo y q S u15 gs (pm_kn kn) ln sv pd) (by rw [← ht12]; exact hB13) rfl
    generalize H1 = H at hP hS ⊢
    have hM := h10
    refine lv_aload_n hx hb dX4_mark_21 rfl (lv_at hl 1 rfl) ?_
    refine lv_iload_n hx hb dX4_mark_22 rfl (lv_at hl 2 rfl) ?_
    refine lv_iload_n hx hb dX4_mark_23 rfl (lv_at hl 3 rfl) ?_
    refine vp_callSi (W.runV (As := [.int (nI n3), .int (nI n4)]) (rest := []) ⟨hx, hb, hml, hown, hts⟩ (k_X4_markOf l D y q S u15 gs (pm_kn kn) ln sv pd n3 n4 (hI.okm n4 (by omega)) (by omega) (by omega)) (cwV 2 hts gX4_mark_X4_markOf rfl rfl rfl hd_X4_markOf ⟨Nat.le_of_ble_eq_true rfl, Nat.le_of_ble_eq_true rfl⟩) ⟨pm_ro_blind, va_recv hK hP (ci := 4) (q0 := 0) rfl rfl, pm_ro_pre hP hK⟩ rfl rfl hl.1 rfl (lv_room (Nat.le_of_ble_eq_true rfl)) dX4_mark_24 ⟨Nat.le_of_ble_eq_true rfl, Nat.le_of_ble_eq_true rfl⟩) (fun r16 h17 => ?_)
    obtain rfl : r16 = nI (pm_mk (S 4 n4) n3) := h17
    have := pm_lt4 (S 4 n4) n3
    refine lv_istore (lv' := [(5, .int (nI (pm_mk (S 4 n4) n3))), (4, .int (nI 0)), (0, .ref (q 0)), (1, .int (nI n3)), (2, .int (nI n4)), (3, .int (nI n5))]) hx hb dX4_mark_27 hl (by decide) rfl (fun ls hl => ?_)
    refine lv_aload_n hx hb dX4_mark_29 rfl (lv_at hl 2 rfl) ?_
    refine lv_iload_n hx hb dX4_mark_30 rfl (lv_at hl 3 rfl) ?_
    refine lv_iload_n hx hb dX4_mark_31 rfl (lv_at hl 4 rfl) ?_
    refine lv_iload_n hx hb dX4_mark_32 rfl (lv_at hl 5 rfl) ?_
    refine va_callv (va_runV (As := [.int (nI n3), .int (nI n4), .int (nI n5)]) (rest := []) ⟨hx, hb, hml, hown, hts⟩ (k_X4_marks l D y q S u15 gs (pm_kn kn) ln sv pd n3 n4 n5 (hI.okm n4 (by omega)) (by omega) (by omega) (by omega)) (cwV 3 hts gX4_mark_X4_marks rfl rfl rfl hd_X4_marks ⟨Nat.le_of_ble_eq_true rfl, Nat.le_of_ble_eq_true rfl⟩) ⟨pm_wr_blind, va_recv hK hP (ci := 4) (q0 := 0) rfl rfl, pm_wr_pre hP hK hD⟩ rfl rfl hl.1 rfl (lv_room (Nat.le_of_ble_eq_true rfl)) dX4_mark_33 ⟨Nat.le_of_ble_eq_true rfl, Nat.le_of_ble_eq_true rfl⟩) hS (fun q _ h9 => (pm_ad_all hD) q h9) (pm_ad_all hD) (fun u24 t20 H1 locs ht21 _ h19 hB22 _ hk23 hS => ?_)
    obtain ⟨hP, hD⟩ := pm_all (D := D) (cl := vwCl) (H1 := H1) hD (w' := pm_mo y q (pm_st S 4 n4 (pm_sm (S 4 n4) n3 n5)) u15 gs (pm_kn kn) ln sv pd) (by rw [← ht21]; exact hB22) rfl
    generalize H1 = H at hP hS ⊢
    refine lv_iload hx hb dX4_mark_36 (lv_at hl 0 rfl) ?_
    have E := E7
    have P1 : nI (pm_mk (S 4 n4) n3) = (pm_aMark S (nI n3) (nI n4) (nI n5)).1 ∧ pm_MH u15 (pm_k2 (pm_aMark S (nI n3) (nI n4) (nI n5)).1 kn) (pm_h2 (pm_aMark S (nI n3) (nI n4) (nI n5)).1 Hs kn S) := by rw [E]; dsimp only; rw [pm_k2_p (by omega), pm_h2_p (by omega)]; exact ⟨rfl, hM⟩
    exact W.iret hx hb hr (fun t ht _ => ⟨⟨_, u15, rfl, P1, (by show va_P D vwCl (pm_mo y q (pm_aMark S (nI n3) (nI n4) (nI n5)).2 u15 gs (pm_k2 (pm_aMark S (nI n3) (nI n4) (nI n5)).1 kn) ln sv pd) t.heap; rw [ht]; exact (by rw [E]; dsimp only; rw [pm_k2_p (by omega)]; exact hP))⟩, hS.F ht⟩) hS.2.2 dX4_mark_38
  · skip
    refine lv_istore (lv' := [(4, .int r1), (0, .ref (q 0)), (1, .int xe), (2, .int xf), (3, .int xm)]) hx hb dX4_mark_7 hl (by decide) rfl (fun ls hl => ?_)
    refine lv_iload hx hb dX4_mark_9 (lv_at hl 0 rfl) ?_
    refine lv_if_ge (tgt := 17) hx hb dX4_mark_11 (by decide) (fun c25 => by exfalso; exact absurd hzzz6 (Int32.not_lt.mpr (by assumption))) (fun c25 => ?_)
    refine lv_iload hx hb dX4_mark_14 (lv_at hl 0 rfl) ?_
    have E := E7
    have P1 : r1 = (pm_aMark S xe xf xm).1 ∧ pm_MH gp (pm_k2 (pm_aMark S xe xf xm).1 kn) (pm_h2 (pm_aMark S xe xf xm).1 Hs kn S) := by rw [E]; dsimp only; rw [pm_k2_n hzzz6, pm_h2_n hzzz6]; exact ⟨rfl, hM⟩
    exact W.iret hx hb hr (fun t ht _ => ⟨⟨_, gp, rfl, P1, (by show va_P D vwCl (pm_mo y q (pm_aMark S xe xf xm).2 gp gs (pm_k2 (pm_aMark S xe xf xm).1 kn) ln sv pd) t.heap; rw [ht]; exact (by rw [E]; dsimp only; rw [pm_k2_n hzzz6]; exact hP))⟩, hS.F ht⟩) hS.2.2 dX4_mark_16

theorem pm_arg01 {S : Nat → Nat → Nat} {i k j : Nat} (hI : pm_Inv S) (hi : i < 3) (hk : k < 3) (hj : j < 30) (hne : ¬ i = k) (hmk : pm_mk (S 4 j) k = 2) (hpt : S 9 2 ≤ S 5 i) : ∃ x : Nat, x < 2 ∧ (pm_aArgue S (nI i) (nI k) (nI j)).1 = nI x := by
  simp only [pm_aArgue, pm_ix_in hi (show (3 : Nat) < 2 ^ 31 by decide), pm_ix_in hk (show (3 : Nat) < 2 ^ 31 by decide), pm_ix_in hj (show (30 : Nat) < 2 ^ 31 by decide)]
  rw [if_neg hne, if_neg (by omega)]
  split
  · exact ⟨0, by decide, rfl⟩
  · exact ⟨1, by decide, rfl⟩
set_option maxHeartbeats 4000000 in
set_option maxRecDepth 100000 in
theorem k_X4_argue (l : Launch) (D : va_G) (y : Nat → ClassId) (q : Nat → Nat) (S : Nat → Nat → Nat) (gp gs : Nat → Int32) (kn ln : Nat) (sv pd : Nat → Nat) (Hs : Nat → Nat → Nat → Nat) (xe xo xf : Int32) (hI : pm_Inv S) (hk : kn ≤ 6) (hM : pm_MH gp kn Hs) : Met l yX4_argue wsX4_argue ({ frames := 4, cells := 0, slots := 0, locals := 90 } : Room) (pm_wr D (pm_ty y) [.ref (q 0), .int xe, .int xo, .int xf] (pm_mo y q S gp gs kn ln sv pd)) (pm_Qi D (fun (r : Int32) (u : Nat → Int32) => r = (pm_aArgue S xe xo xf).1 ∧ pm_MH u (pm_k2 (pm_aArgue S xe xo xf).1 kn) (pm_h2 (pm_aArgue S xe xo xf).1 Hs kn S)) (fun (u : Nat → Int32) => pm_mo y q (pm_aArgue S xe xo xf).2 u gs (pm_k2 (pm_aArgue S xe xo xf).1 kn) ln sv pd) (pm_mo y q S gp gs kn ln sv pd)) 0 0 (pm_ad (pm_mo y q S gp gs kn ln sv pd)) := by
  refine Met.ofW (cc := cX4_argue) (maxL := 5) (ret := (some .int)) (by decide) rfl ?_
  intro p e s m args below meth c s₁ B hml hpre
  obtain ⟨rfl, hP, hK, hD0⟩ := hpre
  have hx := B.exec
  have hb := B.bytes
  have hr := B.returns
  have hts := atoms_spec (ws := wsX4_argue) B.pre
  have hown : s.vm.findClass RX4 = some m.cls := findClass_of_methodNamed B.named
  have hlocks := B.notSynchronized
  have hin4 : ∀ w ∈ u_ws RX4 TX4 7, w ∈ wsX4_argue := fun w h => List.mem_cons_of_mem _ (List.mem_append_right _ h)
  have hD := pm_ad_self hD0
  have hS : va_S (pm_ad (pm_mo y q S gp gs kn ln sv pd)) s.heap s.heap [] := va_S.rf
  have hP : va_P D vwCl (pm_mo y q S gp gs kn ln sv pd) s.heap := hP
  have hl := lv_entry ([.ref (q 0), .int xe, .int xo, .int xf]) (n := 5) (Nat.le_of_ble_eq_true rfl)
  rw [lg_entry_eq]
  generalize (lg_sl ([.ref (q 0), .int xe, .int xo, .int xf]) ++ List.replicate (5 - (lg_sl ([.ref (q 0), .int xe, .int xo, .int xf])).length) Slot.unset).toArray = ls at hl ⊢
  have hl : lv_has ls 5 [(0, .ref (q 0)), (1, .int xe), (2, .int xo), (3, .int xf)] := hl
  refine lv_aload_n hx hb dX4_argue_0 rfl (lv_at hl 0 rfl) ?_
  refine lv_iload_n hx hb dX4_argue_1 rfl (lv_at hl 1 rfl) ?_
  refine lv_iload_n hx hb dX4_argue_2 rfl (lv_at hl 2 rfl) ?_
  refine lv_iload_n hx hb dX4_argue_3 rfl (lv_at hl 3 rfl) ?_
  refine vp_callSi (W.runV (As := [.int xe, .int xo, .int xf]) (rest := []) ⟨hx, hb, hml, hown, hts⟩ (k_X4_whyNotArgue l D y q S gp gs kn ln sv pd xe xo xf hI) (cwV 3 hts gX4_argue_X4_whyNotArgue rfl rfl rfl hd_X4_whyNotArgue ⟨Nat.le_of_ble_eq_true rfl, Nat.le_of_ble_eq_true rfl⟩) ⟨pm_ro_blind, va_recv hK hP (ci := 4) (q0 := 0) rfl rfl, pm_ro_pre hP hK⟩ rfl rfl hl.1 rfl (lv_room (Nat.le_of_ble_eq_true rfl)) dX4_argue_4 ⟨Nat.le_of_ble_eq_true rfl, Nat.le_of_ble_eq_true rfl⟩) (fun r1 h2 => ?_)
  rcases h2 with ⟨n3, n4, n5, hn3, hn4, hn5, rfl, rfl, rfl, hne, hmk, hpt, rfl⟩ | ⟨zz6, E7, hzzz6, rfl⟩
  · skip
    refine lv_istore (lv' := [(4, .int (nI 0)), (0, .ref (q 0)), (1, .int (nI n3)), (2, .int (nI n4)), (3, .int (nI n5))]) hx hb dX4_argue_7 hl (by decide) rfl (fun ls hl => ?_)
    refine lv_iload hx hb dX4_argue_9 (lv_at hl 0 rfl) ?_
    refine lv_if_ge (tgt := 17) hx hb dX4_argue_11 (by decide) (fun _ => ?_) (fun c8 => (c8 (by decide)).elim)
    refine lv_aload_n hx hb dX4_argue_17 rfl (lv_at hl 1 rfl) ?_
    refine va_callv (va_runV (As := []) (rest := []) ⟨hx, hb, hml, hown, hts⟩ (k_X4_remembers l D y q S gp gs kn ln sv pd Hs hk hM) (cwV 0 hts gX4_argue_X4_remembers rfl rfl rfl hd_X4_remembers ⟨Nat.le_of_ble_eq_true rfl, Nat.le_of_ble_eq_true rfl⟩) ⟨pm_wr_blind, va_recv hK hP (ci := 4) (q0 := 0) rfl rfl, pm_wr_pre hP hK hD⟩ rfl rfl hl.1 rfl (lv_room (Nat.le_of_ble_eq_true rfl)) dX4_argue_18 ⟨Nat.le_of_ble_eq_true rfl, Nat.le_of_ble_eq_true rfl⟩) hS (fun q _ h9 => (pm_ad_all hD) q h9) (pm_ad_all hD) (fun u15 t11 H1 locs ht12 _ h10 hB13 _ hk14 hS => ?_)
    obtain ⟨hP, hD⟩ := pm_all (D := D) (cl := vwCl) (H1 := H1) hD (w' := pm_mo y q S u15 gs (pm_kn kn) ln sv pd) (by rw [← ht12]; exact hB13) rfl
    generalize H1 = H at hP hS ⊢
    have hM := h10
    refine lv_aload_n hx hb dX4_argue_21 rfl (lv_at hl 1 rfl) ?_
    refine lv_iload_n hx hb dX4_argue_22 rfl (lv_at hl 2 rfl) ?_
    refine lv_iload_n hx hb dX4_argue_23 rfl (lv_at hl 3 rfl) ?_
    refine lv_iload_n hx hb dX4_argue_24 rfl (lv_at hl 4 rfl) ?_
    refine va_calli (va_runV (As := [.int (nI n3), .int (nI n4), .int (nI n5)]) (rest := []) ⟨hx, hb, hml, hown, hts⟩ (k_X4_argues l D y q S u15 gs (pm_kn kn) ln sv pd n3 n4 n5 hI (by omega) (by omega) (by omega) (by assumption) (by assumption) (by assumption)) (cwV 3 hts gX4_argue_X4_argues rfl rfl rfl hd_X4_argues ⟨Nat.le_of_ble_eq_true rfl, Nat.le_of_ble_eq_true rfl⟩) ⟨pm_wr_blind, va_recv hK hP (ci := 4) (q0 := 0) rfl rfl, pm_wr_pre hP hK hD⟩ rfl rfl hl.1 rfl (lv_room (Nat.le_of_ble_eq_true rfl)) dX4_argue_25 ⟨Nat.le_of_ble_eq_true rfl, Nat.le_of_ble_eq_true rfl⟩) hS (fun q _ h9 => (pm_ad_all hD) q h9) (pm_ad_all hD) (fun r16 u22 t18 H1 locs ht19 _ h17 hB20 _ hk21 hS => ?_)
    obtain ⟨hP, hD⟩ := pm_all (D := D) (cl := vwCl) (H1 := H1) hD (w' := pm_mo y q ((pm_aArgue S (nI n3) (nI n4) (nI n5)).2) u15 gs (pm_kn kn) ln sv pd) (by rw [← ht19]; exact hB20) rfl
    generalize H1 = H at hP hS ⊢
    obtain rfl : r16 = (pm_aArgue S (nI n3) (nI n4) (nI n5)).1 := h17
    obtain ⟨x01, hx01, ex01⟩ := pm_arg01 hI hn3 hn4 hn5 (by assumption) (by assumption) (by assumption)
    have P1 : (pm_aArgue S (nI n3) (nI n4) (nI n5)).1 = (pm_aArgue S (nI n3) (nI n4) (nI n5)).1 ∧ pm_MH u15 (pm_k2 (pm_aArgue S (nI n3) (nI n4) (nI n5)).1 kn) (pm_h2 (pm_aArgue S (nI n3) (nI n4) (nI n5)).1 Hs kn S) := by rw [ex01, pm_k2_p (by omega), pm_h2_p (by omega)]; exact ⟨rfl, hM⟩
    exact W.iret hx hb hr (fun t ht _ => ⟨⟨_, u15, rfl, P1, (by show va_P D vwCl (pm_mo y q (pm_aArgue S (nI n3) (nI n4) (nI n5)).2 u15 gs (pm_k2 (pm_aArgue S (nI n3) (nI n4) (nI n5)).1 kn) ln sv pd) t.heap; rw [ht]; exact (by rw [ex01, pm_k2_p (by omega)]; exact hP))⟩, hS.F ht⟩) hS.2.2 dX4_argue_28
  · skip
    refine lv_istore (lv' := [(4, .int r1), (0, .ref (q 0)), (1, .int xe), (2, .int xo), (3, .int xf)]) hx hb dX4_argue_7 hl (by decide) rfl (fun ls hl => ?_)
    refine lv_iload hx hb dX4_argue_9 (lv_at hl 0 rfl) ?_
    refine lv_if_ge (tgt := 17) hx hb dX4_argue_11 (by decide) (fun c23 => by exfalso; exact absurd hzzz6 (Int32.not_lt.mpr (by assumption))) (fun c23 => ?_)
    refine lv_iload hx hb dX4_argue_14 (lv_at hl 0 rfl) ?_
    have E := E7
    have P1 : r1 = (pm_aArgue S xe xo xf).1 ∧ pm_MH gp (pm_k2 (pm_aArgue S xe xo xf).1 kn) (pm_h2 (pm_aArgue S xe xo xf).1 Hs kn S) := by rw [E]; dsimp only; rw [pm_k2_n hzzz6, pm_h2_n hzzz6]; exact ⟨rfl, hM⟩
    exact W.iret hx hb hr (fun t ht _ => ⟨⟨_, gp, rfl, P1, (by show va_P D vwCl (pm_mo y q (pm_aArgue S xe xo xf).2 gp gs (pm_k2 (pm_aArgue S xe xo xf).1 kn) ln sv pd) t.heap; rw [ht]; exact (by rw [E]; dsimp only; rw [pm_k2_n hzzz6]; exact hP))⟩, hS.F ht⟩) hS.2.2 dX4_argue_16

set_option maxHeartbeats 4000000 in
set_option maxRecDepth 100000 in
theorem k_X4_round (l : Launch) (D : va_G) (y : Nat → ClassId) (q : Nat → Nat) (S : Nat → Nat → Nat) (gp gs : Nat → Int32) (kn ln : Nat) (sv pd : Nat → Nat) (Hs : Nat → Nat → Nat → Nat) (hI : pm_Inv S) (hk : kn ≤ 6) (hM : pm_MH gp kn Hs) : Met l yX4_round wsX4_round ({ frames := 6, cells := 0, slots := 0, locals := 139 } : Room) (pm_wr D (pm_ty y) [.ref (q 0)] (pm_mo y q S gp gs kn ln sv pd)) (pm_Qi D (fun (r : Int32) (u : Nat → Int32) => r = (pm_aRound S).1 ∧ pm_MH u (pm_k2 (pm_aRound S).1 kn) (pm_h2 (pm_aRound S).1 Hs kn S)) (fun (u : Nat → Int32) => pm_mo y q (pm_aRound S).2 u gs (pm_k2 (pm_aRound S).1 kn) ln sv pd) (pm_mo y q S gp gs kn ln sv pd)) 0 0 (pm_ad (pm_mo y q S gp gs kn ln sv pd)) := by
  refine Met.ofW (cc := cX4_round) (maxL := 1) (ret := (some .int)) (by decide) rfl ?_
  intro p e s m args below meth c s₁ B hml hpre
  obtain ⟨rfl, hP, hK, hD0⟩ := hpre
  have hx := B.exec
  have hb := B.bytes
  have hr := B.returns
  have hts := atoms_spec (ws := wsX4_round) B.pre
  have hown : s.vm.findClass RX4 = some m.cls := findClass_of_methodNamed B.named
  have hlocks := B.notSynchronized
  have hin4 : ∀ w ∈ u_ws RX4 TX4 7, w ∈ wsX4_round := fun w h => List.mem_cons_of_mem _ (List.mem_append_right _ h)
  have hD := pm_ad_self hD0
  have hS : va_S (pm_ad (pm_mo y q S gp gs kn ln sv pd)) s.heap s.heap [] := va_S.rf
  have hP : va_P D vwCl (pm_mo y q S gp gs kn ln sv pd) s.heap := hP
  have hl := lv_entry ([.ref (q 0)]) (n := 1) (Nat.le_of_ble_eq_true rfl)
  rw [lg_entry_eq]
  generalize (lg_sl ([.ref (q 0)]) ++ List.replicate (1 - (lg_sl ([.ref (q 0)])).length) Slot.unset).toArray = ls at hl ⊢
  have hl : lv_has ls 1 [(0, .ref (q 0))] := hl
  refine lv_aload_n hx hb dX4_round_0 rfl (lv_at hl 0 rfl) ?_
  refine va_get (D := D) (ci := 4) (v := .ref (q 1)) (C := RX4) (T := TX4) (N := 7) hx hb hts hin4 hown hK hP 0 rfl rfl 0 (by decide) (hts (.fieldLink RX4 7 "ProofMarksModel" "s" "[I") (List.mem_of_getElem? (i := 1) rfl)) (fun _ h9 => h9) rfl dX4_round_1 ?_
  refine lv_sipush (v := nI 166) hx hb dX4_round_4 (by decide) ?_
  refine kx_iald (v := nI (S 10 0)) hx hb hK hP 1 0 rfl rfl (by omega) (by decide) (pm_ms_r (S := S) (k := 0) (by decide)) dX4_round_7 ?_
  have := hI.rnd
  refine lv_bipush (v := nI 99) hx hb dX4_round_8 (by decide) ?_
  refine kx_icmp_ne (tgt := 16) hx hb (by omega) (by decide) dX4_round_10 (by decide) (fun c1 => ?_) (fun c1 => ?_)
  · skip
    refine lv_aload_n hx hb dX4_round_16 rfl (lv_at hl 0 rfl) ?_
    refine va_callv (va_runV (As := []) (rest := []) ⟨hx, hb, hml, hown, hts⟩ (k_X4_remembers l D y q S gp gs kn ln sv pd Hs hk hM) (cwV 0 hts gX4_round_X4_remembers rfl rfl rfl hd_X4_remembers ⟨Nat.le_of_ble_eq_true rfl, Nat.le_of_ble_eq_true rfl⟩) ⟨pm_wr_blind, va_recv hK hP (ci := 4) (q0 := 0) rfl rfl, pm_wr_pre hP hK hD⟩ rfl rfl hl.1 rfl (lv_room (Nat.le_of_ble_eq_true rfl)) dX4_round_17 ⟨Nat.le_of_ble_eq_true rfl, Nat.le_of_ble_eq_true rfl⟩) hS (fun q _ h9 => (pm_ad_all hD) q h9) (pm_ad_all hD) (fun u8 t4 H1 locs ht5 _ h3 hB6 _ hk7 hS => ?_)
    obtain ⟨hP, hD⟩ := pm_all (D := D) (cl := vwCl) (H1 := H1) hD (w' := pm_mo y q S u8 gs (pm_kn kn) ln sv pd) (by rw [← ht5]; exact hB6) rfl
    generalize H1 = H at hP hS ⊢
    have hM := h3
    refine lv_aload_n hx hb dX4_round_20 rfl (lv_at hl 0 rfl) ?_
    refine va_calli (va_runV (As := []) (rest := []) ⟨hx, hb, hml, hown, hts⟩ (k_X4_rounds l D y q S u8 gs (pm_kn kn) ln sv pd hI) (cwV 0 hts gX4_round_X4_rounds rfl rfl rfl hd_X4_rounds ⟨Nat.le_of_ble_eq_true rfl, Nat.le_of_ble_eq_true rfl⟩) ⟨pm_wr_blind, va_recv hK hP (ci := 4) (q0 := 0) rfl rfl, pm_wr_pre hP hK hD⟩ rfl rfl hl.1 rfl (lv_room (Nat.le_of_ble_eq_true rfl)) dX4_round_21 ⟨Nat.le_of_ble_eq_true rfl, Nat.le_of_ble_eq_true rfl⟩) hS (fun q _ h9 => (pm_ad_all hD) q h9) (pm_ad_all hD) (fun r9 u15 t11 H1 locs ht12 _ h10 hB13 _ hk14 hS => ?_)
    obtain ⟨hP, hD⟩ := pm_all (D := D) (cl := vwCl) (H1 := H1) hD (w' := pm_mo y q (pm_st (pm_mid2 S 3) 10 0 (S 10 0 + 1)) u8 gs (pm_kn kn) ln sv pd) (by rw [← ht12]; exact hB13) rfl
    generalize H1 = H at hP hS ⊢
    obtain rfl : r9 = nI (pm_rct S 30) := h10
    have := pm_rct_le S 30
    have E : pm_aRound S = (nI (pm_rct S 30), pm_st (pm_mid2 S 3) 10 0 (S 10 0 + 1)) := by rw [pm_aRound, if_neg (by omega)]; rfl
    have P1 : nI (pm_rct S 30) = (pm_aRound S).1 ∧ pm_MH u8 (pm_k2 (pm_aRound S).1 kn) (pm_h2 (pm_aRound S).1 Hs kn S) := by rw [E]; dsimp only; rw [pm_k2_p (by omega), pm_h2_p (by omega)]; exact ⟨rfl, hM⟩
    exact W.iret hx hb hr (fun t ht _ => ⟨⟨_, u8, rfl, P1, (by show va_P D vwCl (pm_mo y q (pm_aRound S).2 u8 gs (pm_k2 (pm_aRound S).1 kn) ln sv pd) t.heap; rw [ht]; exact (by rw [E]; dsimp only; rw [pm_k2_p (by omega)]; exact hP))⟩, hS.F ht⟩) hS.2.2 dX4_round_24
  · skip
    refine lv_bipush (v := (-5)) hx hb dX4_round_13 (by decide) ?_
    have E : pm_aRound S = (-5, S) := by rw [pm_aRound, if_pos (by omega)]
    have P1 : (-5) = (pm_aRound S).1 ∧ pm_MH gp (pm_k2 (pm_aRound S).1 kn) (pm_h2 (pm_aRound S).1 Hs kn S) := by rw [E]; dsimp only; rw [pm_k2_n pm_neg5, pm_h2_n pm_neg5]; exact ⟨rfl, hM⟩
    exact W.iret hx hb hr (fun t ht _ => ⟨⟨_, gp, rfl, P1, (by show va_P D vwCl (pm_mo y q (pm_aRound S).2 gp gs (pm_k2 (pm_aRound S).1 kn) ln sv pd) t.heap; rw [ht]; exact (by rw [E]; dsimp only; rw [pm_k2_n pm_neg5]; exact hP))⟩, hS.F ht⟩) hS.2.2 dX4_round_15

set_option maxHeartbeats 4000000 in
set_option maxRecDepth 100000 in
theorem k_X4_print (l : Launch) (D : va_G) (y : Nat → ClassId) (q : Nat → Nat) (S : Nat → Nat → Nat) (gp gs : Nat → Int32) (kn ln : Nat) (sv pd : Nat → Nat) (Hs : Nat → Nat → Nat → Nat) (xf xz : Int32) (hI : pm_Inv S) (hk : kn ≤ 6) (hM : pm_MH gp kn Hs) : Met l yX4_print wsX4_print ({ frames := 3, cells := 0, slots := 0, locals := 65 } : Room) (pm_wr D (pm_ty y) [.ref (q 0), .int xf, .int xz] (pm_mo y q S gp gs kn ln sv pd)) (pm_Qi D (fun (r : Int32) (u : Nat → Int32) => r = (pm_aPrint S xf xz).1 ∧ pm_MH u (pm_k2 (pm_aPrint S xf xz).1 kn) (pm_h2 (pm_aPrint S xf xz).1 Hs kn S)) (fun (u : Nat → Int32) => pm_mo y q (pm_aPrint S xf xz).2 u gs (pm_k2 (pm_aPrint S xf xz).1 kn) ln sv pd) (pm_mo y q S gp gs kn ln sv pd)) 0 0 (pm_ad (pm_mo y q S gp gs kn ln sv pd)) := by
  refine Met.ofW (cc := cX4_print) (maxL := 4) (ret := (some .int)) (by decide) rfl ?_
  intro p e s m args below meth c s₁ B hml hpre
  obtain ⟨rfl, hP, hK, hD0⟩ := hpre
  have hx := B.exec
  have hb := B.bytes
  have hr := B.returns
  have hts := atoms_spec (ws := wsX4_print) B.pre
  have hown : s.vm.findClass RX4 = some m.cls := findClass_of_methodNamed B.named
  have hlocks := B.notSynchronized
  have hin4 : ∀ w ∈ u_ws RX4 TX4 7, w ∈ wsX4_print := fun w h => List.mem_cons_of_mem _ (List.mem_append_right _ h)
  have hD := pm_ad_self hD0
  have hS : va_S (pm_ad (pm_mo y q S gp gs kn ln sv pd)) s.heap s.heap [] := va_S.rf
  have hP : va_P D vwCl (pm_mo y q S gp gs kn ln sv pd) s.heap := hP
  have hl := lv_entry ([.ref (q 0), .int xf, .int xz]) (n := 4) (Nat.le_of_ble_eq_true rfl)
  rw [lg_entry_eq]
  generalize (lg_sl ([.ref (q 0), .int xf, .int xz]) ++ List.replicate (4 - (lg_sl ([.ref (q 0), .int xf, .int xz])).length) Slot.unset).toArray = ls at hl ⊢
  have hl : lv_has ls 4 [(0, .ref (q 0)), (1, .int xf), (2, .int xz)] := hl
  refine lv_aload_n hx hb dX4_print_0 rfl (lv_at hl 0 rfl) ?_
  refine lv_iload_n hx hb dX4_print_1 rfl (lv_at hl 1 rfl) ?_
  refine lv_iload_n hx hb dX4_print_2 rfl (lv_at hl 2 rfl) ?_
  refine vp_callSi (W.runV (As := [.int xf, .int xz]) (rest := []) ⟨hx, hb, hml, hown, hts⟩ (k_X4_whyNotPrint l D y q S gp gs kn ln sv pd xf xz hI) (cwV 2 hts gX4_print_X4_whyNotPrint rfl rfl rfl hd_X4_whyNotPrint ⟨Nat.le_of_ble_eq_true rfl, Nat.le_of_ble_eq_true rfl⟩) ⟨pm_ro_blind, va_recv hK hP (ci := 4) (q0 := 0) rfl rfl, pm_ro_pre hP hK⟩ rfl rfl hl.1 rfl (lv_room (Nat.le_of_ble_eq_true rfl)) dX4_print_3 ⟨Nat.le_of_ble_eq_true rfl, Nat.le_of_ble_eq_true rfl⟩) (fun r1 h2 => ?_)
  rcases h2 with ⟨n3, n4, hn3, hn4, hw0, rfl, rfl, hpp, E6, rfl⟩ | ⟨zz5, E6, hzzz5, rfl⟩
  · skip
    refine lv_istore_n (lv' := [(3, .int (nI 0)), (0, .ref (q 0)), (1, .int (nI n3)), (2, .int (nI n4))]) hx hb dX4_print_6 rfl hl (by decide) rfl (fun ls hl => ?_)
    refine lv_iload_n hx hb dX4_print_7 rfl (lv_at hl 0 rfl) ?_
    refine lv_if_ge (tgt := 13) hx hb dX4_print_8 (by decide) (fun _ => ?_) (fun c7 => (c7 (by decide)).elim)
    refine lv_aload_n hx hb dX4_print_13 rfl (lv_at hl 1 rfl) ?_
    refine va_callv (va_runV (As := []) (rest := []) ⟨hx, hb, hml, hown, hts⟩ (k_X4_remembers l D y q S gp gs kn ln sv pd Hs hk hM) (cwV 0 hts gX4_print_X4_remembers rfl rfl rfl hd_X4_remembers ⟨Nat.le_of_ble_eq_true rfl, Nat.le_of_ble_eq_true rfl⟩) ⟨pm_wr_blind, va_recv hK hP (ci := 4) (q0 := 0) rfl rfl, pm_wr_pre hP hK hD⟩ rfl rfl hl.1 rfl (lv_room (Nat.le_of_ble_eq_true rfl)) dX4_print_14 ⟨Nat.le_of_ble_eq_true rfl, Nat.le_of_ble_eq_true rfl⟩) hS (fun q _ h9 => (pm_ad_all hD) q h9) (pm_ad_all hD) (fun u14 t10 H1 locs ht11 _ h9 hB12 _ hk13 hS => ?_)
    obtain ⟨hP, hD⟩ := pm_all (D := D) (cl := vwCl) (H1 := H1) hD (w' := pm_mo y q S u14 gs (pm_kn kn) ln sv pd) (by rw [← ht11]; exact hB12) rfl
    generalize H1 = H at hP hS ⊢
    have hM := h9
    refine lv_aload_n hx hb dX4_print_17 rfl (lv_at hl 1 rfl) ?_
    refine lv_iload_n hx hb dX4_print_18 rfl (lv_at hl 2 rfl) ?_
    refine lv_iload_n hx hb dX4_print_19 rfl (lv_at hl 3 rfl) ?_
    refine va_calli (va_runV (As := [.int (nI n3), .int (nI n4)]) (rest := []) ⟨hx, hb, hml, hown, hts⟩ (k_X4_prints l D y q S u14 gs (pm_kn kn) ln sv pd n3 n4 hI (by omega) (by omega) (by assumption) (by assumption)) (cwV 2 hts gX4_print_X4_prints rfl rfl rfl hd_X4_prints ⟨Nat.le_of_ble_eq_true rfl, Nat.le_of_ble_eq_true rfl⟩) ⟨pm_wr_blind, va_recv hK hP (ci := 4) (q0 := 0) rfl rfl, pm_wr_pre hP hK hD⟩ rfl rfl hl.1 rfl (lv_room (Nat.le_of_ble_eq_true rfl)) dX4_print_20 ⟨Nat.le_of_ble_eq_true rfl, Nat.le_of_ble_eq_true rfl⟩) hS (fun q _ h9 => (pm_ad_all hD) q h9) (pm_ad_all hD) (fun r15 u21 t17 H1 locs ht18 _ h16 hB19 _ hk20 hS => ?_)
    obtain ⟨hP, hD⟩ := pm_all (D := D) (cl := vwCl) (H1 := H1) hD (w' := pm_mo y q (pm_st (pm_st (pm_st (pm_st (pm_st S 0 n3 3) 2 n3 n4) 10 1 (S 10 1 - 10 * n4 * n4)) 10 2 (S 10 2 + 10 * n4 * n4)) 11 n4 (S 11 n4 + 1)) u14 gs (pm_kn kn) ln sv pd) (by rw [← ht18]; exact hB19) rfl
    generalize H1 = H at hP hS ⊢
    obtain rfl : r15 = nI (S 10 1 - 10 * n4 * n4) := h16
    have E := E6
    have := hI.pap
    have P1 : nI (S 10 1 - 10 * n4 * n4) = (pm_aPrint S (nI n3) (nI n4)).1 ∧ pm_MH u14 (pm_k2 (pm_aPrint S (nI n3) (nI n4)).1 kn) (pm_h2 (pm_aPrint S (nI n3) (nI n4)).1 Hs kn S) := by rw [E]; dsimp only; rw [pm_k2_p (by omega), pm_h2_p (by omega)]; exact ⟨rfl, hM⟩
    exact W.iret hx hb hr (fun t ht _ => ⟨⟨_, u14, rfl, P1, (by show va_P D vwCl (pm_mo y q (pm_aPrint S (nI n3) (nI n4)).2 u14 gs (pm_k2 (pm_aPrint S (nI n3) (nI n4)).1 kn) ln sv pd) t.heap; rw [ht]; exact (by rw [E]; dsimp only; rw [pm_k2_p (by omega)]; exact hP))⟩, hS.F ht⟩) hS.2.2 dX4_print_23
  · skip
    refine lv_istore_n (lv' := [(3, .int r1), (0, .ref (q 0)), (1, .int xf), (2, .int xz)]) hx hb dX4_print_6 rfl hl (by decide) rfl (fun ls hl => ?_)
    refine lv_iload_n hx hb dX4_print_7 rfl (lv_at hl 0 rfl) ?_
    refine lv_if_ge (tgt := 13) hx hb dX4_print_8 (by decide) (fun c22 => by exfalso; exact absurd hzzz5 (Int32.not_lt.mpr (by assumption))) (fun c22 => ?_)
    refine lv_iload_n hx hb dX4_print_11 rfl (lv_at hl 0 rfl) ?_
    have E := E6
    have P1 : r1 = (pm_aPrint S xf xz).1 ∧ pm_MH gp (pm_k2 (pm_aPrint S xf xz).1 kn) (pm_h2 (pm_aPrint S xf xz).1 Hs kn S) := by rw [E]; dsimp only; rw [pm_k2_n hzzz5, pm_h2_n hzzz5]; exact ⟨rfl, hM⟩
    exact W.iret hx hb hr (fun t ht _ => ⟨⟨_, gp, rfl, P1, (by show va_P D vwCl (pm_mo y q (pm_aPrint S xf xz).2 gp gs (pm_k2 (pm_aPrint S xf xz).1 kn) ln sv pd) t.heap; rw [ht]; exact (by rw [E]; dsimp only; rw [pm_k2_n hzzz5]; exact hP))⟩, hS.F ht⟩) hS.2.2 dX4_print_12

theorem pm_buy01 {S : Nat → Nat → Nat} {b : Nat} (hI : pm_Inv S) (h : b < 100) (h0 : 0 < b) : ∃ x : Nat, x < 1000 ∧ (pm_aBuy S (nI b)).1 = nI x := by
  have := hI.pap
  simp only [pm_aBuy, pm_ix_in h (show (100 : Nat) < 2 ^ 31 by decide)]
  rw [if_neg (by omega)]
  exact ⟨_, by split <;> omega, rfl⟩
set_option maxHeartbeats 4000000 in
set_option maxRecDepth 100000 in
theorem k_X4_buy (l : Launch) (D : va_G) (y : Nat → ClassId) (q : Nat → Nat) (S : Nat → Nat → Nat) (gp gs : Nat → Int32) (kn ln : Nat) (sv pd : Nat → Nat) (Hs : Nat → Nat → Nat → Nat) (xb : Int32) (hI : pm_Inv S) (hk : kn ≤ 6) (hM : pm_MH gp kn Hs) : Met l yX4_buy wsX4_buy ({ frames := 1, cells := 0, slots := 0, locals := 22 } : Room) (pm_wr D (pm_ty y) [.ref (q 0), .int xb] (pm_mo y q S gp gs kn ln sv pd)) (pm_Qi D (fun (r : Int32) (u : Nat → Int32) => r = (pm_aBuy S xb).1 ∧ pm_MH u (pm_k2 (pm_aBuy S xb).1 kn) (pm_h2 (pm_aBuy S xb).1 Hs kn S)) (fun (u : Nat → Int32) => pm_mo y q (pm_aBuy S xb).2 u gs (pm_k2 (pm_aBuy S xb).1 kn) ln sv pd) (pm_mo y q S gp gs kn ln sv pd)) 0 0 (pm_ad (pm_mo y q S gp gs kn ln sv pd)) := by
  refine Met.ofW (cc := cX4_buy) (maxL := 2) (ret := (some .int)) (by decide) rfl ?_
  intro p e s m args below meth c s₁ B hml hpre
  obtain ⟨rfl, hP, hK, hD0⟩ := hpre
  have hx := B.exec
  have hb := B.bytes
  have hr := B.returns
  have hts := atoms_spec (ws := wsX4_buy) B.pre
  have hown : s.vm.findClass RX4 = some m.cls := findClass_of_methodNamed B.named
  have hlocks := B.notSynchronized
  have hin4 : ∀ w ∈ u_ws RX4 TX4 7, w ∈ wsX4_buy := fun w h => List.mem_cons_of_mem _ (List.mem_append_right _ h)
  have hD := pm_ad_self hD0
  have hS : va_S (pm_ad (pm_mo y q S gp gs kn ln sv pd)) s.heap s.heap [] := va_S.rf
  have hP : va_P D vwCl (pm_mo y q S gp gs kn ln sv pd) s.heap := hP
  have hl := lv_entry ([.ref (q 0), .int xb]) (n := 2) (Nat.le_of_ble_eq_true rfl)
  rw [lg_entry_eq]
  generalize (lg_sl ([.ref (q 0), .int xb]) ++ List.replicate (2 - (lg_sl ([.ref (q 0), .int xb])).length) Slot.unset).toArray = ls at hl ⊢
  have hl : lv_has ls 2 [(0, .ref (q 0)), (1, .int xb)] := hl
  rcases pm_cases xb (n := 100) (by decide) with hnj1 | ⟨j1, hj1, rfl⟩
  · skip
    refine lv_iload_n hx hb dX4_buy_0 rfl (lv_at hl 1 rfl) ?_
    refine lv_iconst (v := nI 1) hx hb dX4_buy_1 (by decide) ?_
    refine lv_bipush (v := nI 99) hx hb dX4_buy_2 (by decide) ?_
    refine vp_callSi (W.runS (As := [.int xb, .int (nI 1), .int (nI 99)]) (rest := []) ⟨hx, hb, hml, hown, hts⟩ (k_X4_in l xb (nI 1) (nI 99)) (va_cwS 3 hts gX4_buy_X4_in rfl rfl rfl hd_X4_in ⟨Nat.le_of_ble_eq_true rfl, Nat.le_of_ble_eq_true rfl⟩) ⟨pm_no_blind, pm_no_pre⟩ rfl rfl hl.1 rfl (lv_room (Nat.le_of_ble_eq_true rfl)) dX4_buy_4 ⟨Nat.le_of_ble_eq_true rfl, Nat.le_of_ble_eq_true rfl⟩) (fun r2 h3 => ?_)
    rcases (show ((nI 1 ≤ xb ∧ xb ≤ nI 99) ∧ r2 = nI 1) ∨ (¬ (nI 1 ≤ xb ∧ xb ≤ nI 99) ∧ r2 = nI 0) from h3) with ⟨hp4, rfl⟩ | ⟨hp4, rfl⟩
    · exact (pm_no2 (n := 99) (a := 1) hnj1 (by decide) (by decide) hp4).elim
    · skip
      refine lv_if_ne (tgt := 13) hx hb dX4_buy_7 (by decide) (fun c5 => (c5 (by decide)).elim) (fun _ => ?_)
      refine lv_bipush (v := (-2)) hx hb dX4_buy_10 (by decide) ?_
      have E : pm_aBuy S xb = (-2, S) := by simp only [pm_aBuy, pm_ix_out hnj1] <;> ((repeat' split) <;> first | rfl | (exfalso; omega))
      have P1 : (-2) = (pm_aBuy S xb).1 ∧ pm_MH gp (pm_k2 (pm_aBuy S xb).1 kn) (pm_h2 (pm_aBuy S xb).1 Hs kn S) := by rw [E]; dsimp only; rw [pm_k2_n pm_neg2, pm_h2_n pm_neg2]; exact ⟨rfl, hM⟩
      exact W.iret hx hb hr (fun t ht _ => ⟨⟨_, gp, rfl, P1, (by show va_P D vwCl (pm_mo y q (pm_aBuy S xb).2 gp gs (pm_k2 (pm_aBuy S xb).1 kn) ln sv pd) t.heap; rw [ht]; exact (by rw [E]; dsimp only; rw [pm_k2_n pm_neg2]; exact hP))⟩, hS.F ht⟩) hS.2.2 dX4_buy_12
  · skip
    refine lv_iload_n hx hb dX4_buy_0 rfl (lv_at hl 1 rfl) ?_
    refine lv_iconst (v := nI 1) hx hb dX4_buy_1 (by decide) ?_
    refine lv_bipush (v := nI 99) hx hb dX4_buy_2 (by decide) ?_
    refine vp_callSi (W.runS (As := [.int (nI j1), .int (nI 1), .int (nI 99)]) (rest := []) ⟨hx, hb, hml, hown, hts⟩ (k_X4_in l (nI j1) (nI 1) (nI 99)) (va_cwS 3 hts gX4_buy_X4_in rfl rfl rfl hd_X4_in ⟨Nat.le_of_ble_eq_true rfl, Nat.le_of_ble_eq_true rfl⟩) ⟨pm_no_blind, pm_no_pre⟩ rfl rfl hl.1 rfl (lv_room (Nat.le_of_ble_eq_true rfl)) dX4_buy_4 ⟨Nat.le_of_ble_eq_true rfl, Nat.le_of_ble_eq_true rfl⟩) (fun r6 h7 => ?_)
    rcases (show ((nI 1 ≤ nI j1 ∧ nI j1 ≤ nI 99) ∧ r6 = nI 1) ∨ (¬ (nI 1 ≤ nI j1 ∧ nI j1 ≤ nI 99) ∧ r6 = nI 0) from h7) with ⟨hp8, rfl⟩ | ⟨hp8, rfl⟩
    · replace hp8 := (pm_in_n (by omega) (by decide) (by decide)).mp hp8
      refine lv_if_ne (tgt := 13) hx hb dX4_buy_7 (by decide) (fun _ => ?_) (fun c9 => absurd c9 (by decide))
      refine lv_aload_n hx hb dX4_buy_13 rfl (lv_at hl 0 rfl) ?_
      refine va_callv (va_runV (As := []) (rest := []) ⟨hx, hb, hml, hown, hts⟩ (k_X4_remembers l D y q S gp gs kn ln sv pd Hs hk hM) (cwV 0 hts gX4_buy_X4_remembers rfl rfl rfl hd_X4_remembers ⟨Nat.le_of_ble_eq_true rfl, Nat.le_of_ble_eq_true rfl⟩) ⟨pm_wr_blind, va_recv hK hP (ci := 4) (q0 := 0) rfl rfl, pm_wr_pre hP hK hD⟩ rfl rfl hl.1 rfl (lv_room (Nat.le_of_ble_eq_true rfl)) dX4_buy_14 ⟨Nat.le_of_ble_eq_true rfl, Nat.le_of_ble_eq_true rfl⟩) hS (fun q _ h9 => (pm_ad_all hD) q h9) (pm_ad_all hD) (fun u16 t12 H1 locs ht13 _ h11 hB14 _ hk15 hS => ?_)
      obtain ⟨hP, hD⟩ := pm_all (D := D) (cl := vwCl) (H1 := H1) hD (w' := pm_mo y q S u16 gs (pm_kn kn) ln sv pd) (by rw [← ht13]; exact hB14) rfl
      generalize H1 = H at hP hS ⊢
      have hM := h11
      refine lv_aload_n hx hb dX4_buy_17 rfl (lv_at hl 0 rfl) ?_
      refine lv_iload_n hx hb dX4_buy_18 rfl (lv_at hl 1 rfl) ?_
      refine va_calli (va_runV (As := [.int (nI j1)]) (rest := []) ⟨hx, hb, hml, hown, hts⟩ (k_X4_buys l D y q S u16 gs (pm_kn kn) ln sv pd j1 hI (by omega) (by omega)) (cwV 1 hts gX4_buy_X4_buys rfl rfl rfl hd_X4_buys ⟨Nat.le_of_ble_eq_true rfl, Nat.le_of_ble_eq_true rfl⟩) ⟨pm_wr_blind, va_recv hK hP (ci := 4) (q0 := 0) rfl rfl, pm_wr_pre hP hK hD⟩ rfl rfl hl.1 rfl (lv_room (Nat.le_of_ble_eq_true rfl)) dX4_buy_19 ⟨Nat.le_of_ble_eq_true rfl, Nat.le_of_ble_eq_true rfl⟩) hS (fun q _ h9 => (pm_ad_all hD) q h9) (pm_ad_all hD) (fun r17 u23 t19 H1 locs ht20 _ h18 hB21 _ hk22 hS => ?_)
      obtain ⟨hP, hD⟩ := pm_all (D := D) (cl := vwCl) (H1 := H1) hD (w' := pm_mo y q ((pm_aBuy S (nI j1)).2) u16 gs (pm_kn kn) ln sv pd) (by rw [← ht20]; exact hB21) rfl
      generalize H1 = H at hP hS ⊢
      obtain rfl : r17 = (pm_aBuy S (nI j1)).1 := h18
      have := hI.pap
      obtain ⟨x01, hx01, ex01⟩ := pm_buy01 hI hj1 (show 0 < j1 by omega)
      have P1 : (pm_aBuy S (nI j1)).1 = (pm_aBuy S (nI j1)).1 ∧ pm_MH u16 (pm_k2 (pm_aBuy S (nI j1)).1 kn) (pm_h2 (pm_aBuy S (nI j1)).1 Hs kn S) := by rw [ex01, pm_k2_p (by omega), pm_h2_p (by omega)]; exact ⟨rfl, hM⟩
      exact W.iret hx hb hr (fun t ht _ => ⟨⟨_, u16, rfl, P1, (by show va_P D vwCl (pm_mo y q (pm_aBuy S (nI j1)).2 u16 gs (pm_k2 (pm_aBuy S (nI j1)).1 kn) ln sv pd) t.heap; rw [ht]; exact (by rw [ex01, pm_k2_p (by omega)]; exact hP))⟩, hS.F ht⟩) hS.2.2 dX4_buy_22
    · replace hp8 := mt (pm_in_n (by omega) (by decide) (by decide)).mpr hp8
      refine lv_if_ne (tgt := 13) hx hb dX4_buy_7 (by decide) (fun c24 => (c24 (by decide)).elim) (fun _ => ?_)
      refine lv_bipush (v := (-2)) hx hb dX4_buy_10 (by decide) ?_
      have E : pm_aBuy S (nI j1) = (-2, S) := by simp only [pm_aBuy, pm_ix_in hj1 (show (100 : Nat) < 2 ^ 31 by decide)] <;> ((repeat' split) <;> first | rfl | (exfalso; omega))
      have P1 : (-2) = (pm_aBuy S (nI j1)).1 ∧ pm_MH gp (pm_k2 (pm_aBuy S (nI j1)).1 kn) (pm_h2 (pm_aBuy S (nI j1)).1 Hs kn S) := by rw [E]; dsimp only; rw [pm_k2_n pm_neg2, pm_h2_n pm_neg2]; exact ⟨rfl, hM⟩
      exact W.iret hx hb hr (fun t ht _ => ⟨⟨_, gp, rfl, P1, (by show va_P D vwCl (pm_mo y q (pm_aBuy S (nI j1)).2 gp gs (pm_k2 (pm_aBuy S (nI j1)).1 kn) ln sv pd) t.heap; rw [ht]; exact (by rw [E]; dsimp only; rw [pm_k2_n pm_neg2]; exact hP))⟩, hS.F ht⟩) hS.2.2 dX4_buy_12

set_option maxHeartbeats 4000000 in
set_option maxRecDepth 100000 in
theorem k_X4_reopen (l : Launch) (D : va_G) (y : Nat → ClassId) (q : Nat → Nat) (S : Nat → Nat → Nat) (gp gs : Nat → Int32) (kn ln : Nat) (sv pd : Nat → Nat) (Hs : Nat → Nat → Nat → Nat) (xf : Int32) (hI : pm_Inv S) (hk : kn ≤ 6) (hM : pm_MH gp kn Hs) : Met l yX4_reopen wsX4_reopen ({ frames := 2, cells := 0, slots := 0, locals := 42 } : Room) (pm_wr D (pm_ty y) [.ref (q 0), .int xf] (pm_mo y q S gp gs kn ln sv pd)) (pm_Qi D (fun (r : Int32) (u : Nat → Int32) => r = (pm_aReopen S xf).1 ∧ pm_MH u (pm_k2 (pm_aReopen S xf).1 kn) (pm_h2 (pm_aReopen S xf).1 Hs kn S)) (fun (u : Nat → Int32) => pm_mo y q (pm_aReopen S xf).2 u gs (pm_k2 (pm_aReopen S xf).1 kn) ln sv pd) (pm_mo y q S gp gs kn ln sv pd)) 0 0 (pm_ad (pm_mo y q S gp gs kn ln sv pd)) := by
  refine Met.ofW (cc := cX4_reopen) (maxL := 3) (ret := (some .int)) (by decide) rfl ?_
  intro p e s m args below meth c s₁ B hml hpre
  obtain ⟨rfl, hP, hK, hD0⟩ := hpre
  have hx := B.exec
  have hb := B.bytes
  have hr := B.returns
  have hts := atoms_spec (ws := wsX4_reopen) B.pre
  have hown : s.vm.findClass RX4 = some m.cls := findClass_of_methodNamed B.named
  have hlocks := B.notSynchronized
  have hin4 : ∀ w ∈ u_ws RX4 TX4 7, w ∈ wsX4_reopen := fun w h => List.mem_cons_of_mem _ (List.mem_append_right _ h)
  have hD := pm_ad_self hD0
  have hS : va_S (pm_ad (pm_mo y q S gp gs kn ln sv pd)) s.heap s.heap [] := va_S.rf
  have hP : va_P D vwCl (pm_mo y q S gp gs kn ln sv pd) s.heap := hP
  have hl := lv_entry ([.ref (q 0), .int xf]) (n := 3) (Nat.le_of_ble_eq_true rfl)
  rw [lg_entry_eq]
  generalize (lg_sl ([.ref (q 0), .int xf]) ++ List.replicate (3 - (lg_sl ([.ref (q 0), .int xf])).length) Slot.unset).toArray = ls at hl ⊢
  have hl : lv_has ls 3 [(0, .ref (q 0)), (1, .int xf)] := hl
  refine lv_iload_n hx hb dX4_reopen_0 rfl (lv_at hl 1 rfl) ?_
  refine vp_callSi (W.runS (As := [.int xf]) (rest := []) ⟨hx, hb, hml, hown, hts⟩ (k_X4_isFrame l xf) (va_cwS 1 hts gX4_reopen_X4_isFrame rfl rfl rfl hd_X4_isFrame ⟨Nat.le_of_ble_eq_true rfl, Nat.le_of_ble_eq_true rfl⟩) ⟨pm_no_blind, pm_no_pre⟩ rfl rfl hl.1 rfl (lv_room (Nat.le_of_ble_eq_true rfl)) dX4_reopen_1 ⟨Nat.le_of_ble_eq_true rfl, Nat.le_of_ble_eq_true rfl⟩) (fun r1 h2 => ?_)
  rcases h2 with ⟨j3, hj3, ej3, rfl⟩ | ⟨hnj3, rfl⟩
  · subst ej3
    refine lv_if_ne (tgt := 9) hx hb dX4_reopen_4 (by decide) (fun _ => ?_) (fun c4 => absurd c4 (by decide))
    refine lv_aload_n hx hb dX4_reopen_9 rfl (lv_at hl 0 rfl) ?_
    refine va_get (D := D) (ci := 4) (v := .ref (q 1)) (C := RX4) (T := TX4) (N := 7) hx hb hts hin4 hown hK hP 0 rfl rfl 0 (by decide) (hts (.fieldLink RX4 7 "ProofMarksModel" "s" "[I") (List.mem_of_getElem? (i := 1) rfl)) (fun _ h9 => h9) rfl dX4_reopen_10 ?_
    refine lv_iload_n hx hb dX4_reopen_13 rfl (lv_at hl 1 rfl) ?_
    refine lv_iconst (v := nI 0) hx hb dX4_reopen_14 (by decide) ?_
    refine vp_callSi (W.runS (As := [.int (nI j3), .int (nI 0)]) (rest := [.ref (q 1)]) ⟨hx, hb, hml, hown, hts⟩ (k_X4_at l j3 0) (va_cwS 2 hts gX4_reopen_X4_at rfl rfl rfl hd_X4_at ⟨Nat.le_of_ble_eq_true rfl, Nat.le_of_ble_eq_true rfl⟩) ⟨pm_no_blind, pm_no_pre⟩ rfl rfl hl.1 rfl (lv_room (Nat.le_of_ble_eq_true rfl)) dX4_reopen_15 ⟨Nat.le_of_ble_eq_true rfl, Nat.le_of_ble_eq_true rfl⟩) (fun r5 h6 => ?_)
    obtain rfl : r5 = nI (5 * j3 + 0) := h6
    refine kx_iald (v := nI (S 0 j3)) hx hb hK hP 1 0 rfl rfl (by omega) (by decide) (pm_ms_f (S := S) (f := j3) 0 (by decide) (by decide) (by omega)) dX4_reopen_18 ?_
    have := hI.how j3 (by omega)
    refine lv_istore_n (lv' := [(2, .int (nI (S 0 j3))), (0, .ref (q 0)), (1, .int (nI j3))]) hx hb dX4_reopen_19 rfl hl (by decide) rfl (fun ls hl => ?_)
    refine lv_iload_n hx hb dX4_reopen_20 rfl (lv_at hl 0 rfl) ?_
    refine kx_if_eq (tgt := 29) hx hb (by omega) dX4_reopen_21 (by decide) (fun c7 => ?_) (fun c7 => ?_)
    · skip
      refine lv_bipush (v := (-5)) hx hb dX4_reopen_29 (by decide) ?_
      have E : pm_aReopen S (nI j3) = ((-5), S) := by simp only [pm_aReopen, pm_ix_in hj3 (show (30 : Nat) < 2 ^ 31 by decide)] <;> ((repeat' split) <;> first | rfl | (exfalso; omega))
      have P1 : (-5) = (pm_aReopen S (nI j3)).1 ∧ pm_MH gp (pm_k2 (pm_aReopen S (nI j3)).1 kn) (pm_h2 (pm_aReopen S (nI j3)).1 Hs kn S) := by rw [E]; dsimp only; rw [pm_k2_n pm_neg5, pm_h2_n pm_neg5]; exact ⟨rfl, hM⟩
      exact W.iret hx hb hr (fun t ht _ => ⟨⟨_, gp, rfl, P1, (by show va_P D vwCl (pm_mo y q (pm_aReopen S (nI j3)).2 gp gs (pm_k2 (pm_aReopen S (nI j3)).1 kn) ln sv pd) t.heap; rw [ht]; exact (by rw [E]; dsimp only; rw [pm_k2_n pm_neg5]; exact hP))⟩, hS.F ht⟩) hS.2.2 dX4_reopen_31
    · skip
      refine lv_iload_n hx hb dX4_reopen_24 rfl (lv_at hl 0 rfl) ?_
      refine lv_iconst (v := nI 3) hx hb dX4_reopen_25 (by decide) ?_
      refine kx_icmp_ne (tgt := 32) hx hb (by omega) (by decide) dX4_reopen_26 (by decide) (fun c8 => ?_) (fun c8 => ?_)
      · skip
        refine lv_aload_n hx hb dX4_reopen_32 rfl (lv_at hl 1 rfl) ?_
        refine va_callv (va_runV (As := []) (rest := []) ⟨hx, hb, hml, hown, hts⟩ (k_X4_remembers l D y q S gp gs kn ln sv pd Hs hk hM) (cwV 0 hts gX4_reopen_X4_remembers rfl rfl rfl hd_X4_remembers ⟨Nat.le_of_ble_eq_true rfl, Nat.le_of_ble_eq_true rfl⟩) ⟨pm_wr_blind, va_recv hK hP (ci := 4) (q0 := 0) rfl rfl, pm_wr_pre hP hK hD⟩ rfl rfl hl.1 rfl (lv_room (Nat.le_of_ble_eq_true rfl)) dX4_reopen_33 ⟨Nat.le_of_ble_eq_true rfl, Nat.le_of_ble_eq_true rfl⟩) hS (fun q _ h9 => (pm_ad_all hD) q h9) (pm_ad_all hD) (fun u15 t11 H1 locs ht12 _ h10 hB13 _ hk14 hS => ?_)
        obtain ⟨hP, hD⟩ := pm_all (D := D) (cl := vwCl) (H1 := H1) hD (w' := pm_mo y q S u15 gs (pm_kn kn) ln sv pd) (by rw [← ht12]; exact hB13) rfl
        generalize H1 = H at hP hS ⊢
        have hM := h10
        refine lv_aload_n hx hb dX4_reopen_36 rfl (lv_at hl 1 rfl) ?_
        refine va_get (D := D) (ci := 4) (v := .ref (q 1)) (C := RX4) (T := TX4) (N := 7) hx hb hts hin4 hown hK hP 0 rfl rfl 0 (by decide) (hts (.fieldLink RX4 7 "ProofMarksModel" "s" "[I") (List.mem_of_getElem? (i := 1) rfl)) (fun _ h9 => h9) rfl dX4_reopen_37 ?_
        refine lv_iload_n hx hb dX4_reopen_40 rfl (lv_at hl 2 rfl) ?_
        refine lv_iconst (v := nI 0) hx hb dX4_reopen_41 (by decide) ?_
        refine vp_callSi (W.runS (As := [.int (nI j3), .int (nI 0)]) (rest := [.ref (q 1)]) ⟨hx, hb, hml, hown, hts⟩ (k_X4_at l j3 0) (va_cwS 2 hts gX4_reopen_X4_at rfl rfl rfl hd_X4_at ⟨Nat.le_of_ble_eq_true rfl, Nat.le_of_ble_eq_true rfl⟩) ⟨pm_no_blind, pm_no_pre⟩ rfl rfl hl.1 rfl (lv_room (Nat.le_of_ble_eq_true rfl)) dX4_reopen_42 ⟨Nat.le_of_ble_eq_true rfl, Nat.le_of_ble_eq_true rfl⟩) (fun r16 h17 => ?_)
        obtain rfl : r16 = nI (5 * j3 + 0) := h17
        refine lv_iconst (v := nI 0) hx hb dX4_reopen_45 (by decide) ?_
        refine kx_iast (ws' := pm_mo y q (pm_st S 0 j3 0) u15 gs (pm_kn kn) ln sv pd) hx hb hK hP hD hS 1 0 rfl rfl (by omega) (by decide) (pm_ms_wf (f := j3) 0 (by decide) (by decide) (by omega)) rfl dX4_reopen_46 (fun H locs hP hD hS => ?_)
        refine lv_aload_n hx hb dX4_reopen_47 rfl (lv_at hl 1 rfl) ?_
        refine va_get (D := D) (ci := 4) (v := .ref (q 1)) (C := RX4) (T := TX4) (N := 7) hx hb hts hin4 hown hK hP 0 rfl rfl 0 (by decide) (hts (.fieldLink RX4 7 "ProofMarksModel" "s" "[I") (List.mem_of_getElem? (i := 1) rfl)) (fun _ h9 => h9) rfl dX4_reopen_48 ?_
        refine lv_iload_n hx hb dX4_reopen_51 rfl (lv_at hl 2 rfl) ?_
        refine lv_iconst (v := nI 1) hx hb dX4_reopen_52 (by decide) ?_
        refine vp_callSi (W.runS (As := [.int (nI j3), .int (nI 1)]) (rest := [.ref (q 1)]) ⟨hx, hb, hml, hown, hts⟩ (k_X4_at l j3 1) (va_cwS 2 hts gX4_reopen_X4_at rfl rfl rfl hd_X4_at ⟨Nat.le_of_ble_eq_true rfl, Nat.le_of_ble_eq_true rfl⟩) ⟨pm_no_blind, pm_no_pre⟩ rfl rfl hl.1 rfl (lv_room (Nat.le_of_ble_eq_true rfl)) dX4_reopen_53 ⟨Nat.le_of_ble_eq_true rfl, Nat.le_of_ble_eq_true rfl⟩) (fun r18 h19 => ?_)
        obtain rfl : r18 = nI (5 * j3 + 1) := h19
        refine lv_iconst (v := nI 0) hx hb dX4_reopen_56 (by decide) ?_
        refine kx_iast (ws' := pm_mo y q (pm_st (pm_st S 0 j3 0) 1 j3 0) u15 gs (pm_kn kn) ln sv pd) hx hb hK hP hD hS 1 0 rfl rfl (by omega) (by decide) (pm_ms_wf (f := j3) 1 (by decide) (by decide) (by omega)) rfl dX4_reopen_57 (fun H locs hP hD hS => ?_)
        refine lv_aload_n hx hb dX4_reopen_58 rfl (lv_at hl 1 rfl) ?_
        refine va_get (D := D) (ci := 4) (v := .ref (q 1)) (C := RX4) (T := TX4) (N := 7) hx hb hts hin4 hown hK hP 0 rfl rfl 0 (by decide) (hts (.fieldLink RX4 7 "ProofMarksModel" "s" "[I") (List.mem_of_getElem? (i := 1) rfl)) (fun _ h9 => h9) rfl dX4_reopen_59 ?_
        refine lv_iload_n hx hb dX4_reopen_62 rfl (lv_at hl 2 rfl) ?_
        refine lv_iconst (v := nI 2) hx hb dX4_reopen_63 (by decide) ?_
        refine vp_callSi (W.runS (As := [.int (nI j3), .int (nI 2)]) (rest := [.ref (q 1)]) ⟨hx, hb, hml, hown, hts⟩ (k_X4_at l j3 2) (va_cwS 2 hts gX4_reopen_X4_at rfl rfl rfl hd_X4_at ⟨Nat.le_of_ble_eq_true rfl, Nat.le_of_ble_eq_true rfl⟩) ⟨pm_no_blind, pm_no_pre⟩ rfl rfl hl.1 rfl (lv_room (Nat.le_of_ble_eq_true rfl)) dX4_reopen_64 ⟨Nat.le_of_ble_eq_true rfl, Nat.le_of_ble_eq_true rfl⟩) (fun r20 h21 => ?_)
        obtain rfl : r20 = nI (5 * j3 + 2) := h21
        refine lv_iconst (v := nI 0) hx hb dX4_reopen_67 (by decide) ?_
        refine kx_iast (ws' := pm_mo y q (pm_st (pm_st (pm_st S 0 j3 0) 1 j3 0) 2 j3 0) u15 gs (pm_kn kn) ln sv pd) hx hb hK hP hD hS 1 0 rfl rfl (by omega) (by decide) (pm_ms_wf (f := j3) 2 (by decide) (by decide) (by omega)) rfl dX4_reopen_68 (fun H locs hP hD hS => ?_)
        refine lv_aload_n hx hb dX4_reopen_69 rfl (lv_at hl 1 rfl) ?_
        refine va_get (D := D) (ci := 4) (v := .ref (q 1)) (C := RX4) (T := TX4) (N := 7) hx hb hts hin4 hown hK hP 0 rfl rfl 0 (by decide) (hts (.fieldLink RX4 7 "ProofMarksModel" "s" "[I") (List.mem_of_getElem? (i := 1) rfl)) (fun _ h9 => h9) rfl dX4_reopen_70 ?_
        refine lv_iload_n hx hb dX4_reopen_73 rfl (lv_at hl 2 rfl) ?_
        refine lv_iconst (v := nI 4) hx hb dX4_reopen_74 (by decide) ?_
        refine vp_callSi (W.runS (As := [.int (nI j3), .int (nI 4)]) (rest := [.ref (q 1)]) ⟨hx, hb, hml, hown, hts⟩ (k_X4_at l j3 4) (va_cwS 2 hts gX4_reopen_X4_at rfl rfl rfl hd_X4_at ⟨Nat.le_of_ble_eq_true rfl, Nat.le_of_ble_eq_true rfl⟩) ⟨pm_no_blind, pm_no_pre⟩ rfl rfl hl.1 rfl (lv_room (Nat.le_of_ble_eq_true rfl)) dX4_reopen_75 ⟨Nat.le_of_ble_eq_true rfl, Nat.le_of_ble_eq_true rfl⟩) (fun r22 h23 => ?_)
        obtain rfl : r22 = nI (5 * j3 + 4) := h23
        refine lv_iconst (v := nI 0) hx hb dX4_reopen_78 (by decide) ?_
        refine kx_iast (ws' := pm_mo y q (pm_st (pm_st (pm_st (pm_st S 0 j3 0) 1 j3 0) 2 j3 0) 4 j3 0) u15 gs (pm_kn kn) ln sv pd) hx hb hK hP hD hS 1 0 rfl rfl (by omega) (by decide) (pm_ms_wf (f := j3) 4 (by decide) (by decide) (by omega)) rfl dX4_reopen_79 (fun H locs hP hD hS => ?_)
        have hq4 : (pm_st (pm_st (pm_st S 0 j3 0) 1 j3 0) 2 j3 0) 4 j3 = 0 := hI.nom j3 hj3 (by omega)
        have hP : va_P D vwCl (pm_mo y q (pm_st (pm_st (pm_st S 0 j3 0) 1 j3 0) 2 j3 0) u15 gs (pm_kn kn) ln sv pd) H := by rw [← pm_st_id hq4]; exact hP
        have hD : va_D (pm_ad (pm_mo y q S gp gs kn ln sv pd)) (pm_mo y q (pm_st (pm_st (pm_st S 0 j3 0) 1 j3 0) 2 j3 0) u15 gs (pm_kn kn) ln sv pd) := by rw [← pm_st_id hq4]; exact hD
        refine lv_iload_n hx hb dX4_reopen_80 rfl (lv_at hl 0 rfl) ?_
        have E : pm_aReopen S (nI j3) = (nI (S 0 j3), (pm_st (pm_st (pm_st S 0 j3 0) 1 j3 0) 2 j3 0)) := by simp only [pm_aReopen, pm_ix_in hj3 (show (30 : Nat) < 2 ^ 31 by decide)] <;> ((repeat' split) <;> first | rfl | (exfalso; omega))
        have P1 : nI (S 0 j3) = (pm_aReopen S (nI j3)).1 ∧ pm_MH u15 (pm_k2 (pm_aReopen S (nI j3)).1 kn) (pm_h2 (pm_aReopen S (nI j3)).1 Hs kn S) := by rw [E]; dsimp only; rw [pm_k2_p (by omega), pm_h2_p (by omega)]; exact ⟨rfl, hM⟩
        exact W.iret hx hb hr (fun t ht _ => ⟨⟨_, u15, rfl, P1, (by show va_P D vwCl (pm_mo y q (pm_aReopen S (nI j3)).2 u15 gs (pm_k2 (pm_aReopen S (nI j3)).1 kn) ln sv pd) t.heap; rw [ht]; exact (by rw [E]; dsimp only; rw [pm_k2_p (by omega)]; exact hP))⟩, hS.F ht⟩) hS.2.2 dX4_reopen_81
      · skip
        refine lv_bipush (v := (-5)) hx hb dX4_reopen_29 (by decide) ?_
        have E : pm_aReopen S (nI j3) = ((-5), S) := by simp only [pm_aReopen, pm_ix_in hj3 (show (30 : Nat) < 2 ^ 31 by decide)] <;> ((repeat' split) <;> first | rfl | (exfalso; omega))
        have P1 : (-5) = (pm_aReopen S (nI j3)).1 ∧ pm_MH gp (pm_k2 (pm_aReopen S (nI j3)).1 kn) (pm_h2 (pm_aReopen S (nI j3)).1 Hs kn S) := by rw [E]; dsimp only; rw [pm_k2_n pm_neg5, pm_h2_n pm_neg5]; exact ⟨rfl, hM⟩
        exact W.iret hx hb hr (fun t ht _ => ⟨⟨_, gp, rfl, P1, (by show va_P D vwCl (pm_mo y q (pm_aReopen S (nI j3)).2 gp gs (pm_k2 (pm_aReopen S (nI j3)).1 kn) ln sv pd) t.heap; rw [ht]; exact (by rw [E]; dsimp only; rw [pm_k2_n pm_neg5]; exact hP))⟩, hS.F ht⟩) hS.2.2 dX4_reopen_31
  · skip
    refine lv_if_ne (tgt := 9) hx hb dX4_reopen_4 (by decide) (fun c24 => (c24 (by decide)).elim) (fun _ => ?_)
    refine lv_iconst (v := -1) hx hb dX4_reopen_7 (by decide) ?_
    have E : pm_aReopen S xf = (-1, S) := by simp only [pm_aReopen, pm_ix_out hnj3] <;> ((repeat' split) <;> first | rfl | (exfalso; omega))
    have P1 : -1 = (pm_aReopen S xf).1 ∧ pm_MH gp (pm_k2 (pm_aReopen S xf).1 kn) (pm_h2 (pm_aReopen S xf).1 Hs kn S) := by rw [E]; dsimp only; rw [pm_k2_n pm_neg1, pm_h2_n pm_neg1]; exact ⟨rfl, hM⟩
    exact W.iret hx hb hr (fun t ht _ => ⟨⟨_, gp, rfl, P1, (by show va_P D vwCl (pm_mo y q (pm_aReopen S xf).2 gp gs (pm_k2 (pm_aReopen S xf).1 kn) ln sv pd) t.heap; rw [ht]; exact (by rw [E]; dsimp only; rw [pm_k2_n pm_neg1]; exact hP))⟩, hS.F ht⟩) hS.2.2 dX4_reopen_8

set_option maxHeartbeats 4000000 in
set_option maxRecDepth 100000 in
theorem k_X4_canSet (l : Launch) (xk xv : Int32)  : Met l yX4_canSet wsX4_canSet ({ frames := 1, cells := 0, slots := 0, locals := 22 } : Room) (pm_no [.int xk, .int xv]) (vp_Si (fun r : Int32 => pm_CS xk xv r)) 0 0 (fun _ => False) := by
  refine Met.ofW (cc := cX4_canSet) (maxL := 2) (ret := (some .boolean)) (by decide) rfl ?_
  intro p e s m args below meth c s₁ B hml hpre
  obtain ⟨rfl, -⟩ := hpre
  have hx := B.exec
  have hb := B.bytes
  have hr := B.returns
  have hts := atoms_spec (ws := wsX4_canSet) B.pre
  have hown : s.vm.findClass RX4 = some m.cls := findClass_of_methodNamed B.named
  have hlocks := B.notSynchronized
  have hl := lv_entry ([.int xk, .int xv]) (n := 2) (Nat.le_of_ble_eq_true rfl)
  rw [lg_entry_eq]
  generalize (lg_sl ([.int xk, .int xv]) ++ List.replicate (2 - (lg_sl ([.int xk, .int xv])).length) Slot.unset).toArray = ls at hl ⊢
  have hl : lv_has ls 2 [(0, .int xk), (1, .int xv)] := hl
  rcases pm_cases xv (n := 10) (by decide) with hnj1 | ⟨j1, hj1, rfl⟩
  · skip
    refine lv_iload_n hx hb dX4_canSet_0 rfl (lv_at hl 0 rfl) ?_
    have hsw2 : (xk < 0 ∨ nI 4 ≤ xk) ∨ xk = nI 0 ∨ xk = nI 1 ∨ xk = nI 2 ∨ xk = nI 3 := by
      rcases pm_cases xk (n := 4) (by decide) with h | ⟨j, hj, rfl⟩
      · exact Or.inl h
      · rcases (show j = 0 ∨ j = 1 ∨ j = 2 ∨ j = 3 by omega) with rfl | rfl | rfl | rfl <;> simp
    rcases hsw2 with hw | rfl | rfl | rfl | rfl
    · skip
      refine lv_tableOut (tgt := 51) hx hb dX4_canSet_1 ((pm_swout (n := 3) (by decide) hw).imp id (fun z => by omega)) (by decide) ?_
      refine lv_iload_n hx hb dX4_canSet_51 rfl (lv_at hl 0 rfl) ?_
      refine lv_iconst (v := nI 3) hx hb dX4_canSet_52 (by decide) ?_
      refine lv_icmp_ne (tgt := 69) hx hb dX4_canSet_53 (by decide) (fun c3 => ?_) (fun c3 => by exfalso; exact pm_io (by decide) (show (3 : Nat) < 4 by decide) (by assumption) hw)
      refine lv_iconst (v := nI 0) hx hb dX4_canSet_69 (by decide) ?_
      have E : ∀ T : Nat → Nat → Nat, pm_aSet T xk xv = (-2, T) := fun T => by simp only [pm_aSet, pm_ix_out hw, pm_ix_out hnj1] <;> exact if_neg (fun z => by simp at z; omega)
      exact W.zret (ty := .boolean) hx hb hr rfl (fun t ht _ => ⟨_, rfl, (Or.inr ⟨E, rfl⟩), ht⟩) (fun _ h => absurd h List.not_mem_nil) dX4_canSet_70
    · skip
      refine lv_tableIn (off := 27) (tgt := 28) hx hb dX4_canSet_1 (by decide) (by decide) (by decide) (by decide) ?_
      refine lv_iload_n hx hb dX4_canSet_28 rfl (lv_at hl 1 rfl) ?_
      refine lv_iconst (v := nI 1) hx hb dX4_canSet_29 (by decide) ?_
      refine lv_iconst (v := nI 3) hx hb dX4_canSet_30 (by decide) ?_
      refine vp_callSi (W.runS (As := [.int xv, .int (nI 1), .int (nI 3)]) (rest := []) ⟨hx, hb, hml, hown, hts⟩ (k_X4_in l xv (nI 1) (nI 3)) (va_cwS 3 hts gX4_canSet_X4_in rfl rfl rfl hd_X4_in ⟨Nat.le_of_ble_eq_true rfl, Nat.le_of_ble_eq_true rfl⟩) ⟨pm_no_blind, pm_no_pre⟩ rfl rfl hl.1 rfl (lv_room (Nat.le_of_ble_eq_true rfl)) dX4_canSet_31 ⟨Nat.le_of_ble_eq_true rfl, Nat.le_of_ble_eq_true rfl⟩) (fun r4 h5 => ?_)
      rcases (show ((nI 1 ≤ xv ∧ xv ≤ nI 3) ∧ r4 = nI 1) ∨ (¬ (nI 1 ≤ xv ∧ xv ≤ nI 3) ∧ r4 = nI 0) from h5) with ⟨hp6, rfl⟩ | ⟨hp6, rfl⟩
      · exact (pm_no2 (n := 3) (a := 1) (pm_outle (a := 10) (b := 4) (by decide) (by decide) hnj1) (by decide) (by decide) hp6).elim
      · skip
        have E : ∀ T : Nat → Nat → Nat, pm_aSet T (nI 0) xv = (-2, T) := fun T => by simp only [pm_aSet, pm_ix_in (show (0 : Nat) < 4 by decide) (show (4 : Nat) < 2 ^ 31 by decide), pm_ix_out hnj1] <;> exact if_neg (fun z => by simp at z; omega)
        exact W.zret (ty := .boolean) hx hb hr rfl (fun t ht _ => ⟨_, rfl, (Or.inr ⟨E, rfl⟩), ht⟩) (fun _ h => absurd h List.not_mem_nil) dX4_canSet_34
    · skip
      refine lv_tableIn (off := 34) (tgt := 35) hx hb dX4_canSet_1 (by decide) (by decide) (by decide) (by decide) ?_
      refine lv_iload_n hx hb dX4_canSet_35 rfl (lv_at hl 1 rfl) ?_
      refine lv_iconst (v := nI 0) hx hb dX4_canSet_36 (by decide) ?_
      refine lv_bipush (v := nI 9) hx hb dX4_canSet_37 (by decide) ?_
      refine vp_callSi (W.runS (As := [.int xv, .int (nI 0), .int (nI 9)]) (rest := []) ⟨hx, hb, hml, hown, hts⟩ (k_X4_in l xv (nI 0) (nI 9)) (va_cwS 3 hts gX4_canSet_X4_in rfl rfl rfl hd_X4_in ⟨Nat.le_of_ble_eq_true rfl, Nat.le_of_ble_eq_true rfl⟩) ⟨pm_no_blind, pm_no_pre⟩ rfl rfl hl.1 rfl (lv_room (Nat.le_of_ble_eq_true rfl)) dX4_canSet_39 ⟨Nat.le_of_ble_eq_true rfl, Nat.le_of_ble_eq_true rfl⟩) (fun r7 h8 => ?_)
      rcases (show ((nI 0 ≤ xv ∧ xv ≤ nI 9) ∧ r7 = nI 1) ∨ (¬ (nI 0 ≤ xv ∧ xv ≤ nI 9) ∧ r7 = nI 0) from h8) with ⟨hp9, rfl⟩ | ⟨hp9, rfl⟩
      · exact (pm_no2 (n := 9) (a := 0) hnj1 (by decide) (by decide) hp9).elim
      · skip
        have E : ∀ T : Nat → Nat → Nat, pm_aSet T (nI 1) xv = (-2, T) := fun T => by simp only [pm_aSet, pm_ix_in (show (1 : Nat) < 4 by decide) (show (4 : Nat) < 2 ^ 31 by decide), pm_ix_out hnj1] <;> exact if_neg (fun z => by simp at z; omega)
        exact W.zret (ty := .boolean) hx hb hr rfl (fun t ht _ => ⟨_, rfl, (Or.inr ⟨E, rfl⟩), ht⟩) (fun _ h => absurd h List.not_mem_nil) dX4_canSet_42
    · skip
      refine lv_tableIn (off := 42) (tgt := 43) hx hb dX4_canSet_1 (by decide) (by decide) (by decide) (by decide) ?_
      refine lv_iload_n hx hb dX4_canSet_43 rfl (lv_at hl 1 rfl) ?_
      refine lv_iconst (v := nI 1) hx hb dX4_canSet_44 (by decide) ?_
      refine lv_bipush (v := nI 9) hx hb dX4_canSet_45 (by decide) ?_
      refine vp_callSi (W.runS (As := [.int xv, .int (nI 1), .int (nI 9)]) (rest := []) ⟨hx, hb, hml, hown, hts⟩ (k_X4_in l xv (nI 1) (nI 9)) (va_cwS 3 hts gX4_canSet_X4_in rfl rfl rfl hd_X4_in ⟨Nat.le_of_ble_eq_true rfl, Nat.le_of_ble_eq_true rfl⟩) ⟨pm_no_blind, pm_no_pre⟩ rfl rfl hl.1 rfl (lv_room (Nat.le_of_ble_eq_true rfl)) dX4_canSet_47 ⟨Nat.le_of_ble_eq_true rfl, Nat.le_of_ble_eq_true rfl⟩) (fun r10 h11 => ?_)
      rcases (show ((nI 1 ≤ xv ∧ xv ≤ nI 9) ∧ r10 = nI 1) ∨ (¬ (nI 1 ≤ xv ∧ xv ≤ nI 9) ∧ r10 = nI 0) from h11) with ⟨hp12, rfl⟩ | ⟨hp12, rfl⟩
      · exact (pm_no2 (n := 9) (a := 1) hnj1 (by decide) (by decide) hp12).elim
      · skip
        have E : ∀ T : Nat → Nat → Nat, pm_aSet T (nI 2) xv = (-2, T) := fun T => by simp only [pm_aSet, pm_ix_in (show (2 : Nat) < 4 by decide) (show (4 : Nat) < 2 ^ 31 by decide), pm_ix_out hnj1] <;> exact if_neg (fun z => by simp at z; omega)
        exact W.zret (ty := .boolean) hx hb hr rfl (fun t ht _ => ⟨_, rfl, (Or.inr ⟨E, rfl⟩), ht⟩) (fun _ h => absurd h List.not_mem_nil) dX4_canSet_50
    · skip
      refine lv_tableOut (tgt := 51) hx hb dX4_canSet_1 (by decide) (by decide) ?_
      refine lv_iload_n hx hb dX4_canSet_51 rfl (lv_at hl 0 rfl) ?_
      refine lv_iconst (v := nI 3) hx hb dX4_canSet_52 (by decide) ?_
      refine lv_icmp_ne (tgt := 69) hx hb dX4_canSet_53 (by decide) (fun c13 => (c13 (by decide)).elim) (fun _ => ?_)
      refine lv_iload_n hx hb dX4_canSet_56 rfl (lv_at hl 1 rfl) ?_
      refine lv_iconst (v := nI 1) hx hb dX4_canSet_57 (by decide) ?_
      refine lv_iconst (v := nI 5) hx hb dX4_canSet_58 (by decide) ?_
      refine vp_callSi (W.runS (As := [.int xv, .int (nI 1), .int (nI 5)]) (rest := []) ⟨hx, hb, hml, hown, hts⟩ (k_X4_in l xv (nI 1) (nI 5)) (va_cwS 3 hts gX4_canSet_X4_in rfl rfl rfl hd_X4_in ⟨Nat.le_of_ble_eq_true rfl, Nat.le_of_ble_eq_true rfl⟩) ⟨pm_no_blind, pm_no_pre⟩ rfl rfl hl.1 rfl (lv_room (Nat.le_of_ble_eq_true rfl)) dX4_canSet_59 ⟨Nat.le_of_ble_eq_true rfl, Nat.le_of_ble_eq_true rfl⟩) (fun r14 h15 => ?_)
      rcases (show ((nI 1 ≤ xv ∧ xv ≤ nI 5) ∧ r14 = nI 1) ∨ (¬ (nI 1 ≤ xv ∧ xv ≤ nI 5) ∧ r14 = nI 0) from h15) with ⟨hp16, rfl⟩ | ⟨hp16, rfl⟩
      · exact (pm_no2 (n := 5) (a := 1) (pm_outle (a := 10) (b := 6) (by decide) (by decide) hnj1) (by decide) (by decide) hp16).elim
      · skip
        refine lv_if_eq (tgt := 69) hx hb dX4_canSet_62 (by decide) (fun _ => ?_) (fun c17 => (c17 (by decide)).elim)
        refine lv_iconst (v := nI 0) hx hb dX4_canSet_69 (by decide) ?_
        have E : ∀ T : Nat → Nat → Nat, pm_aSet T (nI 3) xv = (-2, T) := fun T => by simp only [pm_aSet, pm_ix_in (show (3 : Nat) < 4 by decide) (show (4 : Nat) < 2 ^ 31 by decide), pm_ix_out hnj1] <;> exact if_neg (fun z => by simp at z; omega)
        exact W.zret (ty := .boolean) hx hb hr rfl (fun t ht _ => ⟨_, rfl, (Or.inr ⟨E, rfl⟩), ht⟩) (fun _ h => absurd h List.not_mem_nil) dX4_canSet_70
  · skip
    refine lv_iload_n hx hb dX4_canSet_0 rfl (lv_at hl 0 rfl) ?_
    have hsw18 : (xk < 0 ∨ nI 4 ≤ xk) ∨ xk = nI 0 ∨ xk = nI 1 ∨ xk = nI 2 ∨ xk = nI 3 := by
      rcases pm_cases xk (n := 4) (by decide) with h | ⟨j, hj, rfl⟩
      · exact Or.inl h
      · rcases (show j = 0 ∨ j = 1 ∨ j = 2 ∨ j = 3 by omega) with rfl | rfl | rfl | rfl <;> simp
    rcases hsw18 with hw | rfl | rfl | rfl | rfl
    · skip
      refine lv_tableOut (tgt := 51) hx hb dX4_canSet_1 ((pm_swout (n := 3) (by decide) hw).imp id (fun z => by omega)) (by decide) ?_
      refine lv_iload_n hx hb dX4_canSet_51 rfl (lv_at hl 0 rfl) ?_
      refine lv_iconst (v := nI 3) hx hb dX4_canSet_52 (by decide) ?_
      refine lv_icmp_ne (tgt := 69) hx hb dX4_canSet_53 (by decide) (fun c19 => ?_) (fun c19 => by exfalso; exact pm_io (by decide) (show (3 : Nat) < 4 by decide) (by assumption) hw)
      refine lv_iconst (v := nI 0) hx hb dX4_canSet_69 (by decide) ?_
      have E : ∀ T : Nat → Nat → Nat, pm_aSet T xk (nI j1) = (-2, T) := fun T => by simp only [pm_aSet, pm_ix_out hw, pm_ix_in hj1 (show (10 : Nat) < 2 ^ 31 by decide)] <;> exact if_neg (fun z => by simp at z; omega)
      exact W.zret (ty := .boolean) hx hb hr rfl (fun t ht _ => ⟨_, rfl, (Or.inr ⟨E, rfl⟩), ht⟩) (fun _ h => absurd h List.not_mem_nil) dX4_canSet_70
    · skip
      refine lv_tableIn (off := 27) (tgt := 28) hx hb dX4_canSet_1 (by decide) (by decide) (by decide) (by decide) ?_
      refine lv_iload_n hx hb dX4_canSet_28 rfl (lv_at hl 1 rfl) ?_
      refine lv_iconst (v := nI 1) hx hb dX4_canSet_29 (by decide) ?_
      refine lv_iconst (v := nI 3) hx hb dX4_canSet_30 (by decide) ?_
      refine vp_callSi (W.runS (As := [.int (nI j1), .int (nI 1), .int (nI 3)]) (rest := []) ⟨hx, hb, hml, hown, hts⟩ (k_X4_in l (nI j1) (nI 1) (nI 3)) (va_cwS 3 hts gX4_canSet_X4_in rfl rfl rfl hd_X4_in ⟨Nat.le_of_ble_eq_true rfl, Nat.le_of_ble_eq_true rfl⟩) ⟨pm_no_blind, pm_no_pre⟩ rfl rfl hl.1 rfl (lv_room (Nat.le_of_ble_eq_true rfl)) dX4_canSet_31 ⟨Nat.le_of_ble_eq_true rfl, Nat.le_of_ble_eq_true rfl⟩) (fun r20 h21 => ?_)
      rcases (show ((nI 1 ≤ nI j1 ∧ nI j1 ≤ nI 3) ∧ r20 = nI 1) ∨ (¬ (nI 1 ≤ nI j1 ∧ nI j1 ≤ nI 3) ∧ r20 = nI 0) from h21) with ⟨hp22, rfl⟩ | ⟨hp22, rfl⟩
      · replace hp22 := (pm_in_n (by omega) (by decide) (by decide)).mp hp22
        have E : ∀ T : Nat → Nat → Nat, pm_aSet T (nI 0) (nI j1) = (nI (T 9 0), pm_st T 9 0 j1) := fun T => by simp only [pm_aSet, pm_ix_in (show (0 : Nat) < 4 by decide) (show (4 : Nat) < 2 ^ 31 by decide), pm_ix_in hj1 (show (10 : Nat) < 2 ^ 31 by decide)] <;> exact if_pos (by simp; omega)
        exact W.zret (ty := .boolean) hx hb hr rfl (fun t ht _ => ⟨_, rfl, (Or.inl ⟨0, j1, by decide, hj1, rfl, rfl, E, rfl⟩), ht⟩) (fun _ h => absurd h List.not_mem_nil) dX4_canSet_34
      · replace hp22 := mt (pm_in_n (by omega) (by decide) (by decide)).mpr hp22
        have E : ∀ T : Nat → Nat → Nat, pm_aSet T (nI 0) (nI j1) = (-2, T) := fun T => by simp only [pm_aSet, pm_ix_in (show (0 : Nat) < 4 by decide) (show (4 : Nat) < 2 ^ 31 by decide), pm_ix_in hj1 (show (10 : Nat) < 2 ^ 31 by decide)] <;> exact if_neg (fun z => by simp at z; omega)
        exact W.zret (ty := .boolean) hx hb hr rfl (fun t ht _ => ⟨_, rfl, (Or.inr ⟨E, rfl⟩), ht⟩) (fun _ h => absurd h List.not_mem_nil) dX4_canSet_34
    · skip
      refine lv_tableIn (off := 34) (tgt := 35) hx hb dX4_canSet_1 (by decide) (by decide) (by decide) (by decide) ?_
      refine lv_iload_n hx hb dX4_canSet_35 rfl (lv_at hl 1 rfl) ?_
      refine lv_iconst (v := nI 0) hx hb dX4_canSet_36 (by decide) ?_
      refine lv_bipush (v := nI 9) hx hb dX4_canSet_37 (by decide) ?_
      refine vp_callSi (W.runS (As := [.int (nI j1), .int (nI 0), .int (nI 9)]) (rest := []) ⟨hx, hb, hml, hown, hts⟩ (k_X4_in l (nI j1) (nI 0) (nI 9)) (va_cwS 3 hts gX4_canSet_X4_in rfl rfl rfl hd_X4_in ⟨Nat.le_of_ble_eq_true rfl, Nat.le_of_ble_eq_true rfl⟩) ⟨pm_no_blind, pm_no_pre⟩ rfl rfl hl.1 rfl (lv_room (Nat.le_of_ble_eq_true rfl)) dX4_canSet_39 ⟨Nat.le_of_ble_eq_true rfl, Nat.le_of_ble_eq_true rfl⟩) (fun r23 h24 => ?_)
      rcases (show ((nI 0 ≤ nI j1 ∧ nI j1 ≤ nI 9) ∧ r23 = nI 1) ∨ (¬ (nI 0 ≤ nI j1 ∧ nI j1 ≤ nI 9) ∧ r23 = nI 0) from h24) with ⟨hp25, rfl⟩ | ⟨hp25, rfl⟩
      · replace hp25 := (pm_in_n (by omega) (by decide) (by decide)).mp hp25
        have E : ∀ T : Nat → Nat → Nat, pm_aSet T (nI 1) (nI j1) = (nI (T 9 1), pm_st T 9 1 j1) := fun T => by simp only [pm_aSet, pm_ix_in (show (1 : Nat) < 4 by decide) (show (4 : Nat) < 2 ^ 31 by decide), pm_ix_in hj1 (show (10 : Nat) < 2 ^ 31 by decide)] <;> exact if_pos (by simp; omega)
        exact W.zret (ty := .boolean) hx hb hr rfl (fun t ht _ => ⟨_, rfl, (Or.inl ⟨1, j1, by decide, hj1, rfl, rfl, E, rfl⟩), ht⟩) (fun _ h => absurd h List.not_mem_nil) dX4_canSet_42
      · replace hp25 := mt (pm_in_n (by omega) (by decide) (by decide)).mpr hp25
        have E : ∀ T : Nat → Nat → Nat, pm_aSet T (nI 1) (nI j1) = (-2, T) := fun T => by simp only [pm_aSet, pm_ix_in (show (1 : Nat) < 4 by decide) (show (4 : Nat) < 2 ^ 31 by decide), pm_ix_in hj1 (show (10 : Nat) < 2 ^ 31 by decide)] <;> exact if_neg (fun z => by simp at z; omega)
        exact W.zret (ty := .boolean) hx hb hr rfl (fun t ht _ => ⟨_, rfl, (Or.inr ⟨E, rfl⟩), ht⟩) (fun _ h => absurd h List.not_mem_nil) dX4_canSet_42
    · skip
      refine lv_tableIn (off := 42) (tgt := 43) hx hb dX4_canSet_1 (by decide) (by decide) (by decide) (by decide) ?_
      refine lv_iload_n hx hb dX4_canSet_43 rfl (lv_at hl 1 rfl) ?_
      refine lv_iconst (v := nI 1) hx hb dX4_canSet_44 (by decide) ?_
      refine lv_bipush (v := nI 9) hx hb dX4_canSet_45 (by decide) ?_
      refine vp_callSi (W.runS (As := [.int (nI j1), .int (nI 1), .int (nI 9)]) (rest := []) ⟨hx, hb, hml, hown, hts⟩ (k_X4_in l (nI j1) (nI 1) (nI 9)) (va_cwS 3 hts gX4_canSet_X4_in rfl rfl rfl hd_X4_in ⟨Nat.le_of_ble_eq_true rfl, Nat.le_of_ble_eq_true rfl⟩) ⟨pm_no_blind, pm_no_pre⟩ rfl rfl hl.1 rfl (lv_room (Nat.le_of_ble_eq_true rfl)) dX4_canSet_47 ⟨Nat.le_of_ble_eq_true rfl, Nat.le_of_ble_eq_true rfl⟩) (fun r26 h27 => ?_)
      rcases (show ((nI 1 ≤ nI j1 ∧ nI j1 ≤ nI 9) ∧ r26 = nI 1) ∨ (¬ (nI 1 ≤ nI j1 ∧ nI j1 ≤ nI 9) ∧ r26 = nI 0) from h27) with ⟨hp28, rfl⟩ | ⟨hp28, rfl⟩
      · replace hp28 := (pm_in_n (by omega) (by decide) (by decide)).mp hp28
        have E : ∀ T : Nat → Nat → Nat, pm_aSet T (nI 2) (nI j1) = (nI (T 9 2), pm_st T 9 2 j1) := fun T => by simp only [pm_aSet, pm_ix_in (show (2 : Nat) < 4 by decide) (show (4 : Nat) < 2 ^ 31 by decide), pm_ix_in hj1 (show (10 : Nat) < 2 ^ 31 by decide)] <;> exact if_pos (by simp; omega)
        exact W.zret (ty := .boolean) hx hb hr rfl (fun t ht _ => ⟨_, rfl, (Or.inl ⟨2, j1, by decide, hj1, rfl, rfl, E, rfl⟩), ht⟩) (fun _ h => absurd h List.not_mem_nil) dX4_canSet_50
      · replace hp28 := mt (pm_in_n (by omega) (by decide) (by decide)).mpr hp28
        have E : ∀ T : Nat → Nat → Nat, pm_aSet T (nI 2) (nI j1) = (-2, T) := fun T => by simp only [pm_aSet, pm_ix_in (show (2 : Nat) < 4 by decide) (show (4 : Nat) < 2 ^ 31 by decide), pm_ix_in hj1 (show (10 : Nat) < 2 ^ 31 by decide)] <;> exact if_neg (fun z => by simp at z; omega)
        exact W.zret (ty := .boolean) hx hb hr rfl (fun t ht _ => ⟨_, rfl, (Or.inr ⟨E, rfl⟩), ht⟩) (fun _ h => absurd h List.not_mem_nil) dX4_canSet_50
    · skip
      refine lv_tableOut (tgt := 51) hx hb dX4_canSet_1 (by decide) (by decide) ?_
      refine lv_iload_n hx hb dX4_canSet_51 rfl (lv_at hl 0 rfl) ?_
      refine lv_iconst (v := nI 3) hx hb dX4_canSet_52 (by decide) ?_
      refine lv_icmp_ne (tgt := 69) hx hb dX4_canSet_53 (by decide) (fun c29 => (c29 (by decide)).elim) (fun _ => ?_)
      refine lv_iload_n hx hb dX4_canSet_56 rfl (lv_at hl 1 rfl) ?_
      refine lv_iconst (v := nI 1) hx hb dX4_canSet_57 (by decide) ?_
      refine lv_iconst (v := nI 5) hx hb dX4_canSet_58 (by decide) ?_
      refine vp_callSi (W.runS (As := [.int (nI j1), .int (nI 1), .int (nI 5)]) (rest := []) ⟨hx, hb, hml, hown, hts⟩ (k_X4_in l (nI j1) (nI 1) (nI 5)) (va_cwS 3 hts gX4_canSet_X4_in rfl rfl rfl hd_X4_in ⟨Nat.le_of_ble_eq_true rfl, Nat.le_of_ble_eq_true rfl⟩) ⟨pm_no_blind, pm_no_pre⟩ rfl rfl hl.1 rfl (lv_room (Nat.le_of_ble_eq_true rfl)) dX4_canSet_59 ⟨Nat.le_of_ble_eq_true rfl, Nat.le_of_ble_eq_true rfl⟩) (fun r30 h31 => ?_)
      rcases (show ((nI 1 ≤ nI j1 ∧ nI j1 ≤ nI 5) ∧ r30 = nI 1) ∨ (¬ (nI 1 ≤ nI j1 ∧ nI j1 ≤ nI 5) ∧ r30 = nI 0) from h31) with ⟨hp32, rfl⟩ | ⟨hp32, rfl⟩
      · replace hp32 := (pm_in_n (by omega) (by decide) (by decide)).mp hp32
        refine lv_if_eq (tgt := 69) hx hb dX4_canSet_62 (by decide) (fun c33 => absurd c33 (by decide)) (fun _ => ?_)
        refine lv_iconst (v := nI 1) hx hb dX4_canSet_65 (by decide) ?_
        refine lv_goto (tgt := 70) hx hb dX4_canSet_66 (by decide) ?_
        have E : ∀ T : Nat → Nat → Nat, pm_aSet T (nI 3) (nI j1) = (nI (T 9 3), pm_st T 9 3 j1) := fun T => by simp only [pm_aSet, pm_ix_in (show (3 : Nat) < 4 by decide) (show (4 : Nat) < 2 ^ 31 by decide), pm_ix_in hj1 (show (10 : Nat) < 2 ^ 31 by decide)] <;> exact if_pos (by simp; omega)
        exact W.zret (ty := .boolean) hx hb hr rfl (fun t ht _ => ⟨_, rfl, (Or.inl ⟨3, j1, by decide, hj1, rfl, rfl, E, rfl⟩), ht⟩) (fun _ h => absurd h List.not_mem_nil) dX4_canSet_70
      · replace hp32 := mt (pm_in_n (by omega) (by decide) (by decide)).mpr hp32
        refine lv_if_eq (tgt := 69) hx hb dX4_canSet_62 (by decide) (fun _ => ?_) (fun c34 => (c34 (by decide)).elim)
        refine lv_iconst (v := nI 0) hx hb dX4_canSet_69 (by decide) ?_
        have E : ∀ T : Nat → Nat → Nat, pm_aSet T (nI 3) (nI j1) = (-2, T) := fun T => by simp only [pm_aSet, pm_ix_in (show (3 : Nat) < 4 by decide) (show (4 : Nat) < 2 ^ 31 by decide), pm_ix_in hj1 (show (10 : Nat) < 2 ^ 31 by decide)] <;> exact if_neg (fun z => by simp at z; omega)
        exact W.zret (ty := .boolean) hx hb hr rfl (fun t ht _ => ⟨_, rfl, (Or.inr ⟨E, rfl⟩), ht⟩) (fun _ h => absurd h List.not_mem_nil) dX4_canSet_70

set_option maxHeartbeats 4000000 in
set_option maxRecDepth 100000 in
theorem k_X4_set (l : Launch) (D : va_G) (y : Nat → ClassId) (q : Nat → Nat) (S : Nat → Nat → Nat) (gp gs : Nat → Int32) (kn ln : Nat) (sv pd : Nat → Nat) (Hs : Nat → Nat → Nat → Nat) (xk xv : Int32) (hI : pm_Inv S) (hk : kn ≤ 6) (hM : pm_MH gp kn Hs) : Met l yX4_set wsX4_set ({ frames := 2, cells := 0, slots := 0, locals := 43 } : Room) (pm_wr D (pm_ty y) [.ref (q 0), .int xk, .int xv] (pm_mo y q S gp gs kn ln sv pd)) (pm_Qi D (fun (r : Int32) (u : Nat → Int32) => r = (pm_aSet S xk xv).1 ∧ pm_MH u (pm_k2 (pm_aSet S xk xv).1 kn) (pm_h2 (pm_aSet S xk xv).1 Hs kn S)) (fun (u : Nat → Int32) => pm_mo y q (pm_aSet S xk xv).2 u gs (pm_k2 (pm_aSet S xk xv).1 kn) ln sv pd) (pm_mo y q S gp gs kn ln sv pd)) 0 0 (pm_ad (pm_mo y q S gp gs kn ln sv pd)) := by
  refine Met.ofW (cc := cX4_set) (maxL := 4) (ret := (some .int)) (by decide) rfl ?_
  intro p e s m args below meth c s₁ B hml hpre
  obtain ⟨rfl, hP, hK, hD0⟩ := hpre
  have hx := B.exec
  have hb := B.bytes
  have hr := B.returns
  have hts := atoms_spec (ws := wsX4_set) B.pre
  have hown : s.vm.findClass RX4 = some m.cls := findClass_of_methodNamed B.named
  have hlocks := B.notSynchronized
  have hin4 : ∀ w ∈ u_ws RX4 TX4 7, w ∈ wsX4_set := fun w h => List.mem_cons_of_mem _ (List.mem_append_right _ h)
  have hD := pm_ad_self hD0
  have hS : va_S (pm_ad (pm_mo y q S gp gs kn ln sv pd)) s.heap s.heap [] := va_S.rf
  have hP : va_P D vwCl (pm_mo y q S gp gs kn ln sv pd) s.heap := hP
  have hl := lv_entry ([.ref (q 0), .int xk, .int xv]) (n := 4) (Nat.le_of_ble_eq_true rfl)
  rw [lg_entry_eq]
  generalize (lg_sl ([.ref (q 0), .int xk, .int xv]) ++ List.replicate (4 - (lg_sl ([.ref (q 0), .int xk, .int xv])).length) Slot.unset).toArray = ls at hl ⊢
  have hl : lv_has ls 4 [(0, .ref (q 0)), (1, .int xk), (2, .int xv)] := hl
  refine lv_iload_n hx hb dX4_set_0 rfl (lv_at hl 1 rfl) ?_
  refine lv_iload_n hx hb dX4_set_1 rfl (lv_at hl 2 rfl) ?_
  refine vp_callSi (W.runS (As := [.int xk, .int xv]) (rest := []) ⟨hx, hb, hml, hown, hts⟩ (k_X4_canSet l xk xv) (va_cwS 2 hts gX4_set_X4_canSet rfl rfl rfl hd_X4_canSet ⟨Nat.le_of_ble_eq_true rfl, Nat.le_of_ble_eq_true rfl⟩) ⟨pm_no_blind, pm_no_pre⟩ rfl rfl hl.1 rfl (lv_room (Nat.le_of_ble_eq_true rfl)) dX4_set_2 ⟨Nat.le_of_ble_eq_true rfl, Nat.le_of_ble_eq_true rfl⟩) (fun r1 h2 => ?_)
  rcases h2 with ⟨n3, n4, hn3, hn4, rfl, rfl, E5, rfl⟩ | ⟨E5, rfl⟩
  · skip
    refine lv_if_ne (tgt := 11) hx hb dX4_set_5 (by decide) (fun _ => ?_) (fun c6 => absurd c6 (by decide))
    refine lv_aload_n hx hb dX4_set_11 rfl (lv_at hl 0 rfl) ?_
    refine va_callv (va_runV (As := []) (rest := []) ⟨hx, hb, hml, hown, hts⟩ (k_X4_remembers l D y q S gp gs kn ln sv pd Hs hk hM) (cwV 0 hts gX4_set_X4_remembers rfl rfl rfl hd_X4_remembers ⟨Nat.le_of_ble_eq_true rfl, Nat.le_of_ble_eq_true rfl⟩) ⟨pm_wr_blind, va_recv hK hP (ci := 4) (q0 := 0) rfl rfl, pm_wr_pre hP hK hD⟩ rfl rfl hl.1 rfl (lv_room (Nat.le_of_ble_eq_true rfl)) dX4_set_12 ⟨Nat.le_of_ble_eq_true rfl, Nat.le_of_ble_eq_true rfl⟩) hS (fun q _ h9 => (pm_ad_all hD) q h9) (pm_ad_all hD) (fun u13 t9 H1 locs ht10 _ h8 hB11 _ hk12 hS => ?_)
    obtain ⟨hP, hD⟩ := pm_all (D := D) (cl := vwCl) (H1 := H1) hD (w' := pm_mo y q S u13 gs (pm_kn kn) ln sv pd) (by rw [← ht10]; exact hB11) rfl
    generalize H1 = H at hP hS ⊢
    have hM := h8
    refine lv_aload_n hx hb dX4_set_15 rfl (lv_at hl 0 rfl) ?_
    refine va_get (D := D) (ci := 4) (v := .ref (q 1)) (C := RX4) (T := TX4) (N := 7) hx hb hts hin4 hown hK hP 0 rfl rfl 0 (by decide) (hts (.fieldLink RX4 7 "ProofMarksModel" "s" "[I") (List.mem_of_getElem? (i := 1) rfl)) (fun _ h9 => h9) rfl dX4_set_16 ?_
    refine lv_sipush (v := nI 162) hx hb dX4_set_19 (by decide) ?_
    refine lv_iload_n hx hb dX4_set_22 rfl (lv_at hl 1 rfl) ?_
    refine kx_iadd hx hb dX4_set_23 ?_
    refine kx_iald (v := nI (S 9 n3)) hx hb hK hP 1 0 rfl rfl (by omega) (by decide) (pm_ms_s (S := S) (k := n3) (by omega)) dX4_set_24 ?_
    have := hI.set9 n3 (by omega)
    refine lv_istore_n (lv' := [(3, .int (nI (S 9 n3))), (0, .ref (q 0)), (1, .int (nI n3)), (2, .int (nI n4))]) hx hb dX4_set_25 rfl hl (by decide) rfl (fun ls hl => ?_)
    refine lv_aload_n hx hb dX4_set_26 rfl (lv_at hl 1 rfl) ?_
    refine va_get (D := D) (ci := 4) (v := .ref (q 1)) (C := RX4) (T := TX4) (N := 7) hx hb hts hin4 hown hK hP 0 rfl rfl 0 (by decide) (hts (.fieldLink RX4 7 "ProofMarksModel" "s" "[I") (List.mem_of_getElem? (i := 1) rfl)) (fun _ h9 => h9) rfl dX4_set_27 ?_
    refine lv_sipush (v := nI 162) hx hb dX4_set_30 (by decide) ?_
    refine lv_iload_n hx hb dX4_set_33 rfl (lv_at hl 2 rfl) ?_
    refine kx_iadd hx hb dX4_set_34 ?_
    refine lv_iload_n hx hb dX4_set_35 rfl (lv_at hl 3 rfl) ?_
    refine kx_iast (ws' := pm_mo y q (pm_st S 9 n3 n4) u13 gs (pm_kn kn) ln sv pd) hx hb hK hP hD hS 1 0 rfl rfl (by omega) (by decide) (pm_ms_ws (k := n3) (by omega)) rfl dX4_set_36 (fun H locs hP hD hS => ?_)
    refine lv_iload_n hx hb dX4_set_37 rfl (lv_at hl 0 rfl) ?_
    have E := (E5 S)
    have P1 : nI (S 9 n3) = (pm_aSet S (nI n3) (nI n4)).1 ∧ pm_MH u13 (pm_k2 (pm_aSet S (nI n3) (nI n4)).1 kn) (pm_h2 (pm_aSet S (nI n3) (nI n4)).1 Hs kn S) := by rw [E]; dsimp only; rw [pm_k2_p (by omega), pm_h2_p (by omega)]; exact ⟨rfl, hM⟩
    exact W.iret hx hb hr (fun t ht _ => ⟨⟨_, u13, rfl, P1, (by show va_P D vwCl (pm_mo y q (pm_aSet S (nI n3) (nI n4)).2 u13 gs (pm_k2 (pm_aSet S (nI n3) (nI n4)).1 kn) ln sv pd) t.heap; rw [ht]; exact (by rw [E]; dsimp only; rw [pm_k2_p (by omega)]; exact hP))⟩, hS.F ht⟩) hS.2.2 dX4_set_38
  · skip
    refine lv_if_ne (tgt := 11) hx hb dX4_set_5 (by decide) (fun c14 => (c14 (by decide)).elim) (fun _ => ?_)
    refine lv_bipush (v := (-2)) hx hb dX4_set_8 (by decide) ?_
    have E := (E5 S)
    have P1 : (-2) = (pm_aSet S xk xv).1 ∧ pm_MH gp (pm_k2 (pm_aSet S xk xv).1 kn) (pm_h2 (pm_aSet S xk xv).1 Hs kn S) := by rw [E]; dsimp only; rw [pm_k2_n pm_neg2, pm_h2_n pm_neg2]; exact ⟨rfl, hM⟩
    exact W.iret hx hb hr (fun t ht _ => ⟨⟨_, gp, rfl, P1, (by show va_P D vwCl (pm_mo y q (pm_aSet S xk xv).2 gp gs (pm_k2 (pm_aSet S xk xv).1 kn) ln sv pd) t.heap; rw [ht]; exact (by rw [E]; dsimp only; rw [pm_k2_n pm_neg2]; exact hP))⟩, hS.F ht⟩) hS.2.2 dX4_set_10
