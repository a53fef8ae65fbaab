theorem pm_born3 : ∀ j, j < 5 → defaultValue (tyX3 j) = vp_V [.null, .null, .null, .null, .null] j := by
  intro j hj
  rcases (show j = 0 ∨ j = 1 ∨ j = 2 ∨ j = 3 ∨ j = 4 by omega) with rfl | rfl | rfl | rfl | rfl <;> rfl
theorem pm_born4 : ∀ j, j < 7 → defaultValue (tyX4 j) = vp_V [.null, .null, .int 0, .null, .null, .null, .int 0] j := by
  intro j hj
  rcases (show j = 0 ∨ j = 1 ∨ j = 2 ∨ j = 3 ∨ j = 4 ∨ j = 5 ∨ j = 6 by omega) with rfl | rfl | rfl | rfl | rfl | rfl | rfl <;> rfl
theorem pm_nl_in : ∀ q ∈ pm_nl, Cond.fieldLinkNest "ProofMarks" q.1 q.2.1 q.2.2.1 q.2.2.2 "ProofMarks" ∈ lw_tbl := by decide +kernel
theorem pm_st4 {args : Array Value} {s : State} {nm : String} {f : Nat → Nat} {A : Nat → Prop} (harr : (Cond.arrayOf (.static "ProofMarks$Sheet" nm "[I") .int).before args s = true) (hlen : (Cond.eq (.length (.static "ProofMarks$Sheet" nm "[I")) (.int 4)).before args s = true) (h0 : (Cond.eq (.elem (.static "ProofMarks$Sheet" nm "[I") (.int 0)) (.int (nI (f 0)))).before args s = true) (h1 : (Cond.eq (.elem (.static "ProofMarks$Sheet" nm "[I") (.int 1)) (.int (nI (f 1)))).before args s = true) (h2 : (Cond.eq (.elem (.static "ProofMarks$Sheet" nm "[I") (.int 2)) (.int (nI (f 2)))).before args s = true) (h3 : (Cond.eq (.elem (.static "ProofMarks$Sheet" nm "[I") (.int 3)) (.int (nI (f 3)))).before args s = true) (hl : (Cond.laysStatic "ProofMarks$Sheet" nm "[I").before args s = true) (hini : (Cond.initialized "ProofMarks$Sheet").before args s = true) (hA : ∀ a : Nat, a < s.heap.size → ¬ A a) : ∃ t : Nat, va_Z "ProofMarks$Sheet" nm "[I" (.ref t) A s s.heap ∧ va_T .int t 4 (fun j => .int (nI (f j))) A s s.heap := by
  obtain ⟨t, ht, hT⟩ := va_Tof (tm := .static "ProofMarks$Sheet" nm "[I") (ty := .int) (N := 4) (f := fun j => .int (nI (f j))) (A := A) (by decide) harr (va_eqt hlen) (fun j hj => by
    rcases (show j = 0 ∨ j = 1 ∨ j = 2 ∨ j = 3 by omega) with rfl | rfl | rfl | rfl
    · exact va_eqt h0
    · exact va_eqt h1
    · exact va_eqt h2
    · exact va_eqt h3) hA
  exact ⟨t, va_Zref hl hini ht hA, hT⟩
theorem pm_arrI {args : Array Value} {s : State} (h : (Cond.arrayClass .int).before args s = true) : ∃ cA : ClassId, ArrOfT s cA .int ∧ va_RA s cA .int := by
  obtain ⟨cA, kA, comp, h1, h2, h3⟩ := Cond.arrayClass_spec h
  exact ⟨cA, fun n z => ⟨(fun k hh => by cases hh), kA, h2, comp, h3⟩, h1⟩
theorem pm_arrC {args : Array Value} {s : State} (h : (Cond.arrayClass .char).before args s = true) : ∃ cA : ClassId, ArrOfT s cA .char ∧ va_RA s cA .char := by
  obtain ⟨cA, kA, comp, h1, h2, h3⟩ := Cond.arrayClass_spec h
  exact ⟨cA, fun n z => ⟨(fun k hh => by cases hh), kA, h2, comp, h3⟩, h1⟩
theorem pm_arrZ {args : Array Value} {s : State} (h : (Cond.arrayClass .boolean).before args s = true) : ∃ cA : ClassId, ArrOfT s cA .boolean ∧ va_RA s cA .boolean := by
  obtain ⟨cA, kA, comp, h1, h2, h3⟩ := Cond.arrayClass_spec h
  exact ⟨cA, fun n z => ⟨(fun k hh => by cases hh), kA, h2, comp, h3⟩, h1⟩
theorem pm_arrQ {args : Array Value} {s : State} (h : (Cond.arrayOver (.object RX2)).before args s = true) : ∃ cA : ClassId, ArrOfT s cA (.object RX2) ∧ va_RA s cA (.object RX2) := by
  obtain ⟨comp, cA, kA, h1, h2, h3, h4, h5⟩ := Cond.arrayOver_spec h
  exact ⟨cA, fun n z => ⟨(fun k hh => by cases hh), kA, h3, comp, h4⟩, kA, comp, h3, h4, h1, h5⟩
set_option maxHeartbeats 4000000 in
set_option maxRecDepth 100000 in
theorem law_loop {p : Program} {l : Launch} {e : Env} {s : State} {m : MethodId} {below : List Frame} {meth : Method} {c : Code} {D : va_G} {y : Nat → ClassId} {b : Nat} {L tl tm : Nat} {xs : Nat → Int32} (hL : L ≤ 2048) (C0 : lw_At p s m meth c b L xs) (hK : va_K D vwCl (pm_ty y) s) (hN : pm_NW s) (hT : pm_ST (fun q : Nat => s.heap.size ≤ q) tl tm s) {Ly : Nat → Nat → Nat} {qm : Nat → Nat} : ∀ (n i : Nat), i ≤ L → L + 1 ≤ i + n → pm_Go p l e s m below meth c D y b Ly qm i 18 := by
  intro n
  induction n with
  | zero => intro i h1 h2; omega
  | succ n ih =>
    intro i h1 h2 S Bs pi kn Gs sv U gp gs Hs Sl H locs ls hLI hP hD hS hl
    obtain ⟨hx, hb, hr, hml, hown, hts0, hX, hbl, hlocks, hgv⟩ := id C0
    have hbA : ¬ (fun q : Nat => s.heap.size ≤ q) b := Nat.not_le.mpr hbl
    refine lv_iload_n hx hb dL_law_18 rfl (lv_at hl 3 rfl) ?_
    refine lv_aload_n hx hb dL_law_19 rfl (lv_at hl 0 rfl) ?_
    refine va_slen hx hb hX hbl hbA hS dL_law_20 ?_
    refine lv_iconst (v := nI 4) hx hb dL_law_21 (by decide) ?_
    refine lv_isub hx hb dL_law_22 ?_
    refine lv_icmp_gt (tgt := 735) hx hb dL_law_23 (by decide) (fun c1 => ?_) (fun c1 => ?_)
    · refine lv_iconst (v := 1) hx hb dL_law_735 (by decide) ?_
      refine va_forget (fun q hq => hS.2.2 q hq) ?_
      refine W.widen (k := 600000) (n := 7302250) (Nat.le_of_ble_eq_true rfl) (Nat.le_of_ble_eq_true rfl) ?_
      exact lw_ret hx hb hr hlocks dL_law_736
    · have c2 : ¬ nI L - nI 4 < nI i := c1
      have hi4 : i + 4 ≤ L := by
        by_cases h4 : 4 ≤ L
        · rw [pk_sub h4] at c2
          have c3 : ¬ L - 4 < i := fun z => c2 ((nI_ltI (show L - 4 < 2 ^ 31 by omega) (show i < 2 ^ 31 by omega)).mpr z)
          omega
        · exact absurd (Int32.lt_of_lt_of_le (pk_sneg (by decide) (by omega)) (nI_pos' (by omega))) c2
      have NX : pm_Go p l e s m below meth c D y b Ly qm i 729 := by
        intro S Bs pi kn Gs sv U gp gs Hs Sl H locs ls hLI hP hD hS hl
        refine lv_iinc (v := nI (i + 4)) (lv' := [(3, .int (nI (i + 4))), (0, .ref b), (1, .ref (Ly 0 0)), (2, .ref (qm 0))]) hx hb dL_law_729 hl (k := 3) rfl (nI_add i 4) (by decide) rfl (fun ls hl => ?_)
        refine lv_goto (tgt := 18) hx hb dL_law_732 (by decide) ?_
        exact ih (i + 4) hi4 (by omega) S Bs pi kn Gs sv U gp gs Hs Sl H locs ls hLI hP hD hS (lv_sub hl [1, 2, 3, 0] rfl)
      refine lv_aload_n hx hb dL_law_26 rfl (lv_at hl 0 rfl) ?_
      refine lv_iload_n hx hb dL_law_27 rfl (lv_at hl 3 rfl) ?_
      refine va_sld hx hb hX hbl hbA hS (vp_in_nI (show i < L by omega) (by omega)) dL_law_28 ?_
      refine lv_bipush (v := nI 31) hx hb dL_law_29 (by decide) ?_
      refine lv_iand hx hb dL_law_31 ?_
      obtain ⟨t, ht, et⟩ := pm_a31 (xs (nI i).toNatClampNeg)
      refine lv_topi (fun x9 e9 => ?_)
      obtain rfl : x9 = nI t := e9.trans et
      rcases (show t = 0 ∨ t = 1 ∨ t = 2 ∨ t = 3 ∨ t = 4 ∨ t = 5 ∨ t = 6 ∨ t = 7 ∨ t = 8 ∨ t = 9 ∨ t = 10 ∨ t = 11 ∨ t = 12 ∨ t = 13 ∨ t = 14 ∨ t = 15 ∨ t = 16 ∨ t = 17 ∨ t = 18 ∨ t = 19 ∨ t = 20 ∨ t = 21 ∨ t = 22 ∨ 23 ≤ t by omega) with rfl | rfl | rfl | rfl | rfl | rfl | rfl | rfl | rfl | rfl | rfl | rfl | rfl | rfl | rfl | rfl | rfl | rfl | rfl | rfl | rfl | rfl | rfl | h23
      · refine lv_tableIn (off := 108) (tgt := 140) hx hb dL_law_32 (by decide) (by decide) (by decide) (by decide) ?_
        exact law_c0 hL C0 hK hN hT hi4 NX S Bs pi kn Gs sv U gp gs Hs Sl H locs ls hLI hP hD hS hl
      · refine lv_tableIn (off := 141) (tgt := 173) hx hb dL_law_32 (by decide) (by decide) (by decide) (by decide) ?_
        exact law_c1 hL C0 hK hN hT hi4 NX S Bs pi kn Gs sv U gp gs Hs Sl H locs ls hLI hP hD hS hl
      · refine lv_tableIn (off := 184) (tgt := 216) hx hb dL_law_32 (by decide) (by decide) (by decide) (by decide) ?_
        exact law_c2 hL C0 hK hN hT hi4 NX S Bs pi kn Gs sv U gp gs Hs Sl H locs ls hLI hP hD hS hl
      · refine lv_tableIn (off := 227) (tgt := 259) hx hb dL_law_32 (by decide) (by decide) (by decide) (by decide) ?_
        exact law_c3 hL C0 hK hN hT hi4 NX S Bs pi kn Gs sv U gp gs Hs Sl H locs ls hLI hP hD hS hl
      · refine lv_tableIn (off := 240) (tgt := 272) hx hb dL_law_32 (by decide) (by decide) (by decide) (by decide) ?_
        exact law_c4 hL C0 hK hN hT hi4 NX S Bs pi kn Gs sv U gp gs Hs Sl H locs ls hLI hP hD hS hl
      · refine lv_tableIn (off := 273) (tgt := 305) hx hb dL_law_32 (by decide) (by decide) (by decide) (by decide) ?_
        exact law_c5 hL C0 hK hN hT hi4 NX S Bs pi kn Gs sv U gp gs Hs Sl H locs ls hLI hP hD hS hl
      · refine lv_tableIn (off := 296) (tgt := 328) hx hb dL_law_32 (by decide) (by decide) (by decide) (by decide) ?_
        exact law_c6 hL C0 hK hN hT hi4 NX S Bs pi kn Gs sv U gp gs Hs Sl H locs ls hLI hP hD hS hl
      · refine lv_tableIn (off := 319) (tgt := 351) hx hb dL_law_32 (by decide) (by decide) (by decide) (by decide) ?_
        exact law_c7 hL C0 hK hN hT hi4 NX S Bs pi kn Gs sv U gp gs Hs Sl H locs ls hLI hP hD hS hl
      · refine lv_tableIn (off := 352) (tgt := 384) hx hb dL_law_32 (by decide) (by decide) (by decide) (by decide) ?_
        exact law_c8 hL C0 hK hN hT hi4 NX S Bs pi kn Gs sv U gp gs Hs Sl H locs ls hLI hP hD hS hl
      · refine lv_tableIn (off := 385) (tgt := 417) hx hb dL_law_32 (by decide) (by decide) (by decide) (by decide) ?_
        exact law_c9 hL C0 hK hN hT hi4 NX S Bs pi kn Gs sv U gp gs Hs Sl H locs ls hLI hP hD hS hl
      · refine lv_tableIn (off := 408) (tgt := 440) hx hb dL_law_32 (by decide) (by decide) (by decide) (by decide) ?_
        exact law_c10 hL C0 hK hN hT hi4 NX S Bs pi kn Gs sv U gp gs Hs Sl H locs ls hLI hP hD hS hl
      · refine lv_tableIn (off := 431) (tgt := 463) hx hb dL_law_32 (by decide) (by decide) (by decide) (by decide) ?_
        exact law_c11 hL C0 hK hN hT hi4 NX S Bs pi kn Gs sv U gp gs Hs Sl H locs ls hLI hP hD hS hl
      · refine lv_tableIn (off := 454) (tgt := 486) hx hb dL_law_32 (by decide) (by decide) (by decide) (by decide) ?_
        exact law_c12 hL C0 hK hN hT hi4 NX S Bs pi kn Gs sv U gp gs Hs Sl H locs ls hLI hP hD hS hl
      · refine lv_tableIn (off := 477) (tgt := 509) hx hb dL_law_32 (by decide) (by decide) (by decide) (by decide) ?_
        exact law_c13 hL C0 hK hN hT hi4 NX S Bs pi kn Gs sv U gp gs Hs Sl H locs ls hLI hP hD hS hl
      · refine lv_tableIn (off := 500) (tgt := 532) hx hb dL_law_32 (by decide) (by decide) (by decide) (by decide) ?_
        exact law_c14 hL C0 hK hN hT hi4 NX S Bs pi kn Gs sv U gp gs Hs Sl H locs ls hLI hP hD hS hl
      · refine lv_tableIn (off := 533) (tgt := 565) hx hb dL_law_32 (by decide) (by decide) (by decide) (by decide) ?_
        exact law_c15 hL C0 hK hN hT hi4 NX S Bs pi kn Gs sv U gp gs Hs Sl H locs ls hLI hP hD hS hl
      · refine lv_tableIn (off := 546) (tgt := 578) hx hb dL_law_32 (by decide) (by decide) (by decide) (by decide) ?_
        exact law_c16 hL C0 hK hN hT hi4 NX S Bs pi kn Gs sv U gp gs Hs Sl H locs ls hLI hP hD hS hl
      · refine lv_tableIn (off := 599) (tgt := 631) hx hb dL_law_32 (by decide) (by decide) (by decide) (by decide) ?_
        exact law_c17 hL C0 hK hN hT hi4 NX S Bs pi kn Gs sv U gp gs Hs Sl H locs ls hLI hP hD hS hl
      · refine lv_tableIn (off := 612) (tgt := 644) hx hb dL_law_32 (by decide) (by decide) (by decide) (by decide) ?_
        exact law_c18 hL C0 hK hN hT hi4 NX S Bs pi kn Gs sv U gp gs Hs Sl H locs ls hLI hP hD hS hl
      · refine lv_tableIn (off := 625) (tgt := 657) hx hb dL_law_32 (by decide) (by decide) (by decide) (by decide) ?_
        exact law_c19 hL C0 hK hN hT hi4 NX S Bs pi kn Gs sv U gp gs Hs Sl H locs ls hLI hP hD hS hl
      · refine lv_tableIn (off := 638) (tgt := 670) hx hb dL_law_32 (by decide) (by decide) (by decide) (by decide) ?_
        exact law_c20 hL C0 hK hN hT hi4 NX S Bs pi kn Gs sv U gp gs Hs Sl H locs ls hLI hP hD hS hl
      · refine lv_tableIn (off := 651) (tgt := 683) hx hb dL_law_32 (by decide) (by decide) (by decide) (by decide) ?_
        exact law_c21 hL C0 hK hN hT hi4 NX S Bs pi kn Gs sv U gp gs Hs Sl H locs ls hLI hP hD hS hl
      · refine lv_tableIn (off := 674) (tgt := 706) hx hb dL_law_32 (by decide) (by decide) (by decide) (by decide) ?_
        exact law_c22 hL C0 hK hN hT hi4 NX S Bs pi kn Gs sv U gp gs Hs Sl H locs ls hLI hP hD hS hl
      · refine lv_tableOut (tgt := 729) hx hb dL_law_32 (pm_swout (n := 22) (by decide) (Or.inr (nI_le h23 (by omega)))) (by decide) ?_
        exact NX S Bs pi kn Gs sv U gp gs Hs Sl H locs ls hLI hP hD hS hl
set_option maxHeartbeats 4000000 in
set_option maxRecDepth 100000 in
/-- the law, from its entry -/
theorem whole_start {p : Program} {e : Env} {s : State} {m : MethodId} {below : List Frame} {meth : Method} {c : Code} (l : Launch) (hflags : l.flags = flags0) {b L : Nat} {xs : Nat → Int32} (hL : L ≤ 2048) (C0 : lw_At p s m meth c b L xs) : W p l e room_1 s m #[Value.ref b] below meth c s.heap [] 0 0 (lw_Z below #[Value.ref b] s) (entryFrame m ([Value.ref b] : List Value).toArray 4) := by
  obtain ⟨hx, hb, hr, hml, hown, hts0, hX, hbl, hlocks, hgv⟩ := id C0
  have hown : s.vm.findClass RL = some m.cls := hown
  have hts : ∀ w ∈ wsL_law, w.before #[Value.ref b] s = true := fun w hw => hts0 w (wsL_law_in w hw)
  have hA : ∀ q : Nat, s.heap.size ≤ q → (fun q : Nat => s.heap.size ≤ q) q := fun _ h => h
  have hAn : ∀ a : Nat, a < s.heap.size → ¬ (fun q : Nat => s.heap.size ≤ q) a := fun _ h => Nat.not_le.mpr h
  obtain ⟨c0, iS0, hKn0⟩ := u_known (C := RX0) (T := TX0) (N := 2) (n := 2) hts inlX0 (hts0 (.instantiable RX0 2) (by decide +kernel))
  obtain ⟨c1, iS1, hKn1⟩ := u_known (C := RX1) (T := TX1) (N := 8) (n := 8) hts inlX1 (hts0 (.instantiable RX1 8) (by decide +kernel))
  obtain ⟨c2, iS2, hKn2⟩ := u_known (C := RX2) (T := TX2) (N := 15) (n := 15) hts inlX2 (hts0 (.instantiable RX2 15) (by decide +kernel))
  obtain ⟨c3, iS3, hKn3⟩ := u_known (C := RX3) (T := TX3) (N := 5) (n := 5) hts inlX3 (hts0 (.instantiable RX3 5) (by decide +kernel))
  obtain ⟨c4, iS4, hKn4⟩ := u_known (C := RX4) (T := TX4) (N := 7) (n := 7) hts inlX4 (hts0 (.instantiable RX4 7) (by decide +kernel))
  have hO : va_AO RX2 s := va_AO.of (hts0 (.arrayOver (.object RX2)) (by decide +kernel))
  obtain ⟨y0, hy0⟩ := pm_arrI (hts0 (.arrayClass .int) (by decide +kernel))
  obtain ⟨y1, hy1⟩ := pm_arrC (hts0 (.arrayClass .char) (by decide +kernel))
  obtain ⟨y2, hy2⟩ := pm_arrZ (hts0 (.arrayClass .boolean) (by decide +kernel))
  obtain ⟨y3, hy3⟩ := pm_arrQ (hts0 (.arrayOver (.object RX2)) (by decide +kernel))
  obtain ⟨D, y, hK⟩ : ∃ (D : va_G) (y : Nat → ClassId), va_K D vwCl (pm_ty y) s := by
    refine ⟨(fun k => if k = 0 then c0 else if k = 1 then c1 else if k = 2 then c2 else if k = 3 then c3 else c4, fun k => if k = 0 then iS0 else if k = 1 then iS1 else if k = 2 then iS2 else if k = 3 then iS3 else iS4), fun k => if k = 0 then y0 else if k = 1 then y1 else if k = 2 then y2 else y3, ?_, ?_⟩
    · intro k q hq
      match k, hq with
      | 0, hq => cases hq; exact hKn0
      | 1, hq => cases hq; exact hKn1
      | 2, hq => cases hq; exact hKn2
      | 3, hq => cases hq; exact hKn3
      | 4, hq => cases hq; exact hKn4
      | k + 5, hq => simp [vwCl] at hq
    · intro k q hq
      match k, hq with
      | 0, hq => cases hq; exact hy0
      | 1, hq => cases hq; exact hy1
      | 2, hq => cases hq; exact hy2
      | 3, hq => cases hq; exact hy3
      | k + 4, hq => simp [pm_ty] at hq
  have hN : pm_NW s := fun q hq => va_Nw.of rfl (hts0 _ (pm_nl_in q hq))
  have hNm : va_Nw (.methodLinkNest RX3 25 yX1_init "ProofMarks") s := va_Nw.of rfl (hts0 (.methodLinkNest RX3 25 yX1_init "ProofMarks") (by decide +kernel))
  have hs := flat_of_before _ hgv
  obtain ⟨tl, hZl, hTl⟩ := pm_st4 (nm := "LEAST_VALUES") (f := pm_lst) (A := fun q : Nat => s.heap.size ≤ q) (hs _ (by decide +kernel)) (hs _ (by decide +kernel)) (hs _ (by decide +kernel)) (hs _ (by decide +kernel)) (hs _ (by decide +kernel)) (hs _ (by decide +kernel)) (hts0 _ (by decide +kernel)) (hts0 _ (by decide +kernel)) hAn
  obtain ⟨tm, hZm, hTm⟩ := pm_st4 (nm := "MOST_VALUES") (f := pm_mst) (A := fun q : Nat => s.heap.size ≤ q) (hs _ (by decide +kernel)) (hs _ (by decide +kernel)) (hs _ (by decide +kernel)) (hs _ (by decide +kernel)) (hs _ (by decide +kernel)) (hs _ (by decide +kernel)) (hts0 _ (by decide +kernel)) (hts0 _ (by decide +kernel)) hAn
  have hT : pm_ST (fun q : Nat => s.heap.size ≤ q) tl tm s := ⟨⟨hZl, hTl⟩, hZm, hTm⟩
  have hS : va_S (fun q : Nat => s.heap.size ≤ q) s.heap s.heap [] := va_S.rf
  have hP : va_P D vwCl [] s.heap := fun k q h => by simp at h
  have hD : va_D (fun q : Nat => s.heap.size ≤ q) [] := ⟨fun i j p q h => by simp at h, fun k q h => by simp at h⟩
  have hl := lv_entry ([.ref b]) (n := 4) (Nat.le_of_ble_eq_true rfl)
  rw [lg_entry_eq]
  generalize (lg_sl ([.ref b]) ++ List.replicate (4 - (lg_sl ([.ref b])).length) Slot.unset).toArray = ls at hl ⊢
  have hl : lv_has ls 4 [(0, .ref b)] := hl
  refine va_new (ci := 3) (fs := [.null, .null, .null, .null, .null]) (C := RX3) (T := TX3) (N := 5) hx hb hts inlX3 tyX3 tyX3_ok hown (hts0 (.classLink RL 7 RX3) (by decide +kernel)) (hts0 (.instantiable RX3 5) (by decide +kernel)) (hts0 (.initialized RX3) (by decide +kernel)) hK hP hD hS hA rfl pm_born3 (Nat.le_of_ble_eq_true rfl) (Nat.le_of_ble_eq_true rfl) dL_law_0 (fun n1 H hP hD hS => ?_)
  refine lv_dup hx hb dL_law_3 rfl ?_
  have hL1 := pm_last hP hD
  have hF := pm_hF hD hA hS.1
  refine va_callv (va_runI (As := []) (rest := [.ref n1]) ⟨hx, hb, hml, hown, hts⟩ (k_X3_init l D y n1 H.size) (cwI 0 hts gL_law_X3_init rfl rfl rfl (hts0 (.initialized RX3) (by decide +kernel)) (hts0 (.methodLink RL 9 yX3_init) (by decide +kernel)) (hts0 (.instanceMethod yX3_init) (by decide +kernel)) rfl hd_X3_init ⟨Nat.le_of_ble_eq_true rfl, Nat.le_of_ble_eq_true rfl⟩) ⟨pm_mkz_blind, pm_mkz_pre hL1.1 hK hL1.2 hO hNm⟩ rfl rfl hl.1 rfl (lv_room (Nat.le_of_ble_eq_true rfl)) dL_law_4 ⟨Nat.le_of_ble_eq_true rfl, Nat.le_of_ble_eq_true rfl⟩) hS (fun q _ h => hF q h) hF (fun u1 t9 H1 locs ht9 _ h9 hB9 hz9 hk9 hS => ?_)
  obtain ⟨hP8, hD8⟩ := pm_joinN hP hD hk9 hF (by rw [← ht9]; exact hB9.1) hB9.2
  clear hP hD hL1 hF hB9 hk9 ht9
  obtain rfl : n1 = u1 0 0 := h9.symm
  have hP : va_P D vwCl (pm_cl y u1 pm_S0 (fun _ => pm_S0) (fun j => j) 0 (fun _ => pm_S0) (fun _ => 0) pm_U0) H1 := hP8
  have hD : va_D (fun q : Nat => s.heap.size ≤ q) (pm_cl y u1 pm_S0 (fun _ => pm_S0) (fun j => j) 0 (fun _ => pm_S0) (fun _ => 0) pm_U0) := hD8
  clear hP8 hD8
  refine lv_astore_n (lv' := [(1, .ref (u1 0 0)), (0, .ref b)]) hx hb dL_law_7 rfl hl (by decide) rfl (fun ls hl => ?_)
  refine va_new (ci := 4) (fs := [.null, .null, .int 0, .null, .null, .null, .int 0]) (C := RX4) (T := TX4) (N := 7) hx hb hts inlX4 tyX4 tyX4_ok hown (hts0 (.classLink RL 10 RX4) (by decide +kernel)) (hts0 (.instantiable RX4 7) (by decide +kernel)) (hts0 (.initialized RX4) (by decide +kernel)) hK hP hD hS hA rfl pm_born4 (Nat.le_of_ble_eq_true rfl) (Nat.le_of_ble_eq_true rfl) dL_law_8 (fun n2 H hP hD hS => ?_)
  refine lv_dup hx hb dL_law_11 rfl ?_
  have hL1 := pm_last hP hD
  have hF := pm_hF hD hA hS.1
  refine va_callv (va_runI (As := []) (rest := [.ref n2]) ⟨hx, hb, hml, hown, hts⟩ (k_X4_init l D y n2 H.size) (cwI 0 hts gL_law_X4_init rfl rfl rfl (hts0 (.initialized RX4) (by decide +kernel)) (hts0 (.methodLink RL 12 yX4_init) (by decide +kernel)) (hts0 (.instanceMethod yX4_init) (by decide +kernel)) rfl hd_X4_init ⟨Nat.le_of_ble_eq_true rfl, Nat.le_of_ble_eq_true rfl⟩) ⟨pm_mkr_blind, pm_mkr_pre hL1.1 hK hL1.2⟩ rfl rfl hl.1 rfl (lv_room (Nat.le_of_ble_eq_true rfl)) dL_law_12 ⟨Nat.le_of_ble_eq_true rfl, Nat.le_of_ble_eq_true rfl⟩) hS (fun q _ h => hF q h) hF (fun u2 t9 H1 locs ht9 _ h9 hB9 hz9 hk9 hS => ?_)
  obtain ⟨hP8, hD8⟩ := pm_joinN hP hD hk9 hF (by rw [← ht9]; exact hB9.1) hB9.2
  clear hP hD hL1 hF hB9 hk9 ht9
  obtain rfl : n2 = u2 0 := h9.symm
  have hP : va_P D vwCl (pm_lw y u1 u2 pm_S0 (fun _ => pm_S0) (fun j => j) 0 (fun _ => pm_S0) (fun _ => 0) pm_U0 (fun _ => 0) (fun _ => 0)) H1 := by unfold pm_lw; rw [List.append_nil]; exact hP8
  have hD : va_D (fun q : Nat => s.heap.size ≤ q) (pm_lw y u1 u2 pm_S0 (fun _ => pm_S0) (fun j => j) 0 (fun _ => pm_S0) (fun _ => 0) pm_U0 (fun _ => 0) (fun _ => 0)) := by unfold pm_lw; rw [List.append_nil]; exact hD8
  clear hP8 hD8
  refine lv_astore_n (lv' := [(2, .ref (u2 0)), (1, .ref (u1 0 0)), (0, .ref b)]) hx hb dL_law_15 rfl hl (by decide) rfl (fun ls hl => ?_)
  refine lv_iconst (v := nI 0) hx hb dL_law_16 (by decide) ?_
  refine lv_istore_n (lv' := [(3, .int (nI 0)), (2, .ref (u2 0)), (1, .ref (u1 0 0)), (0, .ref b)]) hx hb dL_law_17 rfl hl (by decide) rfl (fun ls hl => ?_)
  refine W.widen (k := 143) (n := 3893) (Nat.le_of_ble_eq_true rfl) (Nat.le_of_ble_eq_true rfl) ?_
  exact law_loop hL C0 hK hN hT (L + 1) 0 (Nat.zero_le _) (by omega) pm_S0 (fun _ => pm_S0) (fun j => j) 0 (fun _ => pm_S0) (fun _ => 0) pm_U0 (fun _ => 0) (fun _ => 0) (fun _ => pm_S0) (fun _ => pm_S0) _ _ _ pm_LI_0 hP hD hS (lv_sub hl [3, 2, 1, 0] rfl)
