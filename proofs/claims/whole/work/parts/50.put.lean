/-! ===== putting characters on a pad ===== -/
theorem pm_i2c {b : Nat} (h : b < 65536) : ((nI b).toUInt32 % 65536).toInt32 = nI b := by
  apply Int32.toBitVec.inj
  apply BitVec.eq_of_toNat_eq
  unfold nI
  simp
  omega
def pm_ap (P : Nat → Nat) (ln X m k : Nat) : Nat → Nat := fun j => if ln ≤ j ∧ j < ln + k then X / 256 ^ (m - 1 - (j - ln)) % 256 else P j
theorem pm_ap_0 (P : Nat → Nat) (ln X m : Nat) : pm_ap P ln X m 0 = P := by
  funext j
  unfold pm_ap
  rw [if_neg (by omega)]
theorem pm_ap_s (P : Nat → Nat) (ln X m k : Nat) : upd (pm_vn (pm_ap P ln X m k)) (ln + k) (nI (X / 256 ^ (m - k - 1) % 256)) = pm_vn (pm_ap P ln X m (k + 1)) := by
  rw [pm_vn_u]
  congr 1
  funext j
  unfold updN pm_ap
  by_cases h : j = ln + k
  · subst h
    rw [if_pos rfl, if_pos (by omega), show m - 1 - (ln + k - ln) = m - k - 1 by omega]
  · rw [if_neg h]
    by_cases h2 : ln ≤ j ∧ j < ln + k
    · rw [if_pos h2, if_pos (by omega)]
    · rw [if_neg h2, if_neg (by omega)]
def pm_aPut (P : Nat → Nat) (ln X : Nat) : Int32 × (Nat → Nat) × Nat := if pm_many X = 0 then (-2, P, ln) else if 80 < ln + pm_many X then (-4, P, ln) else (nI (ln + pm_many X), pm_ap P ln X (pm_many X) (pm_many X), ln + pm_many X)
theorem pm_aPut_PI {P : Nat → Nat} {ln : Nat} (X : Nat) (h : pm_PI P ln) : pm_PI (pm_aPut P ln X).2.1 (pm_aPut P ln X).2.2 := by
  unfold pm_aPut
  split
  · exact h
  · split
    · exact h
    · refine ⟨by show ln + pm_many X ≤ 80; omega, fun p hp => ?_⟩
      replace hp : p < ln + pm_many X := hp
      show 33 ≤ pm_ap P ln X (pm_many X) (pm_many X) p ∧ pm_ap P ln X (pm_many X) (pm_many X) p ≤ 126
      unfold pm_ap
      by_cases g : ln ≤ p ∧ p < ln + pm_many X
      · rw [if_pos g]
        exact (pm_many8 X).2 _ (by omega)
      · rw [if_neg g]
        exact h.2 p (by omega)
theorem pm_nar {b : Nat} (h : b < 65536) : vp_nar FieldType.char (nI b) = nI b := by
  first | exact pm_i2c h | (unfold vp_nar; exact pm_i2c h) | (simp only [vp_nar]; exact pm_i2c h)
theorem pm_dn {m : Nat} (h : m < 2 ^ 31) : nI m - nI 1 < 0 ↔ m = 0 := by
  by_cases h0 : m = 0
  · subst h0
    exact ⟨fun _ => rfl, fun _ => by decide⟩
  · rw [pk_sub (show 1 ≤ m by omega)]
    refine ⟨fun z => ?_, fun z => absurd z h0⟩
    have z1 := Int32.lt_iff_toInt_lt.mp z
    rw [nI_toInt (by omega)] at z1
    have d : (0 : Int32).toInt = 0 := rfl
    rw [d] at z1
    omega
theorem pm_dnb (m k : Nat) (h : k < m) : (nI (m - (k + 1)) - nI 1 : Int32) = nI (m - k) - nI 1 + -1 := by
  have key : ∀ a : Int32, a - nI 1 = a + 1 - nI 1 + -1 := fun a => by rw [show nI 1 = (1 : Int32) from rfl, Int32.add_sub_cancel, Int32.sub_eq_add_neg]
  rw [show m - k = (m - (k + 1)) + 1 by omega, nI_succ (m - (k + 1))]
  exact key _
section PMCC
variable {p : Program} {l : Launch} {e : Env} {R : Room} {s : State} {m : MethodId} {args : Array Value} {below : List Frame} {meth : Method} {c : Code} {H : Heap} {locs : List Loc} {cells slots : Nat} {Q : State → Prop}
variable {cc : ByteArray} {pc : Nat} {ls : Array Slot} {rest : List Value} {D : va_G} {cl : List vw_C} {A : Nat → Prop} {a : Nat} {tys : List (ClassId × FieldType)} {ws ws' : va_W} {H0 : Heap}
theorem kx_cast (hx : p.tables.exec = Jvm.exec) (hb : c.code = cc) (hK : va_K D cl tys s) (hP : va_P D cl ws H) (hD : va_D A ws) (hS : va_S A H0 H locs) (q0 t0 : Nat) {cA : ClassId} {n : Nat} {f g : Nat → Int32} (ha : ws[q0]? = some (a, .inl (cA, n, .inl f))) (ht : tys[t0]? = some (cA, .char)) {i : Nat} {x : Int32} (hi : i < n) (hn : n < 2 ^ 31) (hc : vp_nar FieldType.char x = x) (hg : upd f i x = g) (hw : ws.set q0 (a, .inl (cA, n, .inl g)) = ws') (hdg : decode cc pc = .ok (.castore, 1))
    (kk : ∀ (H1 : Heap) (locs1 : List Loc), va_P D cl ws' H1 → va_D A ws' → va_S A H0 H1 locs1 → W p l e R s m args below meth c H1 locs1 cells slots Q (F0 m (pc + 1) ls rest)) : W p l e R s m args below meth c H locs cells slots Q (F0 m pc ls (.int x :: .int (nI i) :: .ref a :: rest)) :=
  va_cast hx hb hK hP hD hS q0 t0 ha ht (vp_in_nI hi hn) hdg (by rw [nI_clamp (Nat.lt_trans hi hn), hc, hg, hw]; exact kk)
end PMCC

set_option maxHeartbeats 4000000 in
set_option maxRecDepth 100000 in
theorem k_X1_charactersIn (l : Launch) (X : Nat) (hX : X < 2 ^ 64) : Met l yX1_charactersIn wsX1_charactersIn ({ frames := 0, cells := 0, slots := 0, locals := 0 } : Room) (pm_no [.long (pm_L X)]) (vp_Si (fun r : Int32 => r = nI (pm_many X))) 0 0 (fun _ => False) := by
  refine Met.ofW (cc := cX1_charactersIn) (maxL := 7) (ret := (some .int)) (by decide) rfl ?_
  intro p e s m args below meth c s₁ B hml hpre
  obtain ⟨rfl, -⟩ := hpre
  have hx := B.exec
  have hb := B.bytes
  have hr := B.returns
  have hts := atoms_spec (ws := wsX1_charactersIn) B.pre
  have hown : s.vm.findClass RX1 = some m.cls := findClass_of_methodNamed B.named
  have hlocks := B.notSynchronized
  have hl := lv_entry ([.long (pm_L X)]) (n := 7) (Nat.le_of_ble_eq_true rfl)
  rw [lg_entry_eq]
  generalize (lg_sl ([.long (pm_L X)]) ++ List.replicate (7 - (lg_sl ([.long (pm_L X)])).length) Slot.unset).toArray = ls at hl ⊢
  have hl : lv_has ls 7 [(0, .long (pm_L X))] := hl
  refine lv_lload_n hx hb dX1_charactersIn_0 rfl (lv_at hl 0 rfl) ?_
  refine lv_lstore_n (lv' := [(2, .long (pm_L X)), (0, .long (pm_L X))]) hx hb dX1_charactersIn_1 rfl hl (by decide) rfl (fun ls hl => ?_)
  refine lv_iconst (v := nI 0) hx hb dX1_charactersIn_2 (by decide) ?_
  refine lv_istore (lv' := [(4, .int (nI 0)), (2, .long (pm_L X)), (0, .long (pm_L X))]) hx hb dX1_charactersIn_3 hl (by decide) rfl (fun ls hl => ?_)
  have LOOP5 : ∀ (n i : Nat) (ls : Array Slot), i ≤ 8 → 8 - i < n → lv_has ls 7 [(0, .long (pm_L X)), (2, .long (pm_L (X / 256 ^ i))), (4, .int (nI i))] → (pm_many X = pm_res i (X / 256 ^ i)) → W p l e (headSpec wsX1_charactersIn ({ frames := 0, cells := 0, slots := 0, locals := 0 } : Room)).room s m ([.long (pm_L X)] : List Value).toArray below meth c s.heap [] 0 0 (MQ below (vp_Si (fun r : Int32 => r = nI (pm_many X))) ([.long (pm_L X)] : List Value).toArray s 0 0 (fun _ => False)) (F0 m 5 ls []) := by
    intro n
    induction n with
    | zero => intro i _ hi hn; omega
    | succ n ih1 =>
      intro i ls hi_i hn_i hl hh5_0
      have hlt : X / 256 ^ i < 2 ^ 64 := Nat.lt_of_le_of_lt (Nat.div_le_self _ _) hX
      have hmd : X / 256 ^ i % 256 < 256 := Nat.mod_lt _ (by decide)
      refine lv_iload hx hb dX1_charactersIn_5 (lv_at hl 2 rfl) ?_
      refine lv_bipush (v := nI 8) hx hb dX1_charactersIn_7 (by decide) ?_
      refine kx_icmp_ge (tgt := 56) hx hb (by omega) (by decide) dX1_charactersIn_9 (by decide) (fun c2 => ?_) (fun c2 => ?_)
      · skip
        refine lv_iload hx hb dX1_charactersIn_56 (lv_at hl 2 rfl) ?_
        exact W.iret hx hb hr (fun t ht _ => ⟨_, rfl, (congrArg nI (by first | (rw [hh5_0, show X / 256 ^ i = 0 by assumption, pm_res_z (by omega)]) | (obtain rfl : i = 8 := (by omega); exact hh5_0.symm))), ht⟩) (fun _ h => absurd h List.not_mem_nil) dX1_charactersIn_58
      · skip
        refine lv_lload_n hx hb dX1_charactersIn_12 rfl (lv_at hl 1 rfl) ?_
        refine lv_lconst (v := 0) hx hb dX1_charactersIn_13 (by decide) ?_
        refine W.lcmp hx hb dX1_charactersIn_14 ?_
        refine lv_if_eq (tgt := 56) hx hb dX1_charactersIn_15 (by decide) (fun c3 => ?_) (fun c3 => ?_)
        · replace c3 := (pm_c0 hlt).mp c3
          refine lv_iload hx hb dX1_charactersIn_56 (lv_at hl 2 rfl) ?_
          exact W.iret hx hb hr (fun t ht _ => ⟨_, rfl, (congrArg nI (by first | (rw [hh5_0, show X / 256 ^ i = 0 by assumption, pm_res_z (by omega)]) | (obtain rfl : i = 8 := (by omega); exact hh5_0.symm))), ht⟩) (fun _ h => absurd h List.not_mem_nil) dX1_charactersIn_58
        · replace c3 := mt (pm_c0 hlt).mpr c3
          refine lv_lload_n hx hb dX1_charactersIn_18 rfl (lv_at hl 1 rfl) ?_
          refine lv_ldc2 hx hb hown (hts (.constantLong RX1 42 (255)) (List.mem_of_getElem? (i := 1) rfl)) dX1_charactersIn_19 ?_
          refine lv_land hx hb dX1_charactersIn_22 ?_
          refine lv_topl (fun x4 e5 => ?_)
          obtain rfl : x4 = pm_L ((X / 256 ^ i) % 256) := e5.trans (pm_L_and (X / 256 ^ i))
          refine lv_lstore (lv' := [(5, .long (pm_L ((X / 256 ^ i) % 256))), (0, .long (pm_L X)), (2, .long (pm_L (X / 256 ^ i))), (4, .int (nI i))]) hx hb dX1_charactersIn_23 hl (by decide) rfl (fun ls hl => ?_)
          refine lv_lload hx hb dX1_charactersIn_25 (lv_at hl 0 rfl) ?_
          refine lv_ldc2 hx hb hown (hts (.constantLong RX1 44 (33)) (List.mem_of_getElem? (i := 2) rfl)) dX1_charactersIn_27 ?_
          refine W.lcmp hx hb dX1_charactersIn_30 ?_
          refine lv_if_lt (tgt := 43) hx hb dX1_charactersIn_31 (by decide) (fun c6 => ?_) (fun c6 => ?_)
          · replace c6 := (pm_clt (b := X / 256 ^ i % 256) (by omega)).mp c6
            refine lv_iconst (v := nI 0) hx hb dX1_charactersIn_43 (by decide) ?_
            exact W.iret hx hb hr (fun t ht _ => ⟨_, rfl, (congrArg nI (by rw [hh5_0, pm_res_n (by omega) (by assumption) (by omega)])), ht⟩) (fun _ h => absurd h List.not_mem_nil) dX1_charactersIn_44
          · replace c6 := mt (pm_clt (b := X / 256 ^ i % 256) (by omega)).mpr c6
            refine lv_lload hx hb dX1_charactersIn_34 (lv_at hl 0 rfl) ?_
            refine lv_ldc2 hx hb hown (hts (.constantLong RX1 46 (126)) (List.mem_of_getElem? (i := 3) rfl)) dX1_charactersIn_36 ?_
            refine W.lcmp hx hb dX1_charactersIn_39 ?_
            refine lv_if_le (tgt := 45) hx hb dX1_charactersIn_40 (by decide) (fun c7 => ?_) (fun c7 => ?_)
            · replace c7 := (pm_cle (b := X / 256 ^ i % 256) (by omega)).mp c7
              refine lv_lload_n hx hb dX1_charactersIn_45 rfl (lv_at hl 2 rfl) ?_
              refine lv_bipush (v := nI 8) hx hb dX1_charactersIn_46 (by decide) ?_
              refine lv_lushr (v := pm_L (X / 256 ^ (i + 1))) hx hb dX1_charactersIn_48 ((pm_b8 hlt).trans (congrArg pm_L (pm_dd X i))) ?_
              refine lv_lstore_n (lv' := [(2, .long (pm_L (X / 256 ^ (i + 1)))), (5, .long (pm_L ((X / 256 ^ i) % 256))), (0, .long (pm_L X)), (4, .int (nI i))]) hx hb dX1_charactersIn_49 rfl hl (by decide) rfl (fun ls hl => ?_)
              refine kx_iinc (a := i) (lv' := [(4, .int (nI (i + 1))), (2, .long (pm_L (X / 256 ^ (i + 1)))), (5, .long (pm_L ((X / 256 ^ i) % 256))), (0, .long (pm_L X))]) hx hb dX1_charactersIn_50 hl (k := 3) rfl (by decide) rfl (fun ls hl => ?_)
              refine lv_goto (tgt := 5) hx hb dX1_charactersIn_53 (by decide) ?_
              exact ih1 (i + 1) ls (by omega) (by omega) (by exact lv_sub hl [3, 1, 0] rfl) (by rw [hh5_0, pm_res_s (by omega) (by assumption) ⟨by omega, by omega⟩, pm_dd])
            · replace c7 := mt (pm_cle (b := X / 256 ^ i % 256) (by omega)).mpr c7
              refine lv_iconst (v := nI 0) hx hb dX1_charactersIn_43 (by decide) ?_
              exact W.iret hx hb hr (fun t ht _ => ⟨_, rfl, (congrArg nI (by rw [hh5_0, pm_res_n (by omega) (by assumption) (by omega)])), ht⟩) (fun _ h => absurd h List.not_mem_nil) dX1_charactersIn_44
  exact LOOP5 (8 + 1) 0 ls (by omega) (by omega) (by rw [show X / 256 ^ 0 = X by rw [Nat.pow_zero, Nat.div_one]]; exact lv_sub hl [2, 1, 0] rfl) (by rw [Nat.pow_zero, Nat.div_one]; rfl)

set_option maxHeartbeats 4000000 in
set_option maxRecDepth 100000 in
theorem k_X1_append (l : Launch) (D : va_G) (y : Nat → ClassId) (q : Nat → Nat) (pP : Nat → Nat) (pln pa : Nat) (po ped pot pnm psz : Int32) (X : Nat) (hPI : pm_PI pP pln) (hX : X < 2 ^ 64) : Met l yX1_append wsX1_append ({ frames := 1, cells := 0, slots := 0, locals := 26 } : Room) (pm_wr D (pm_ty y) [.ref (q 0), .long (pm_L X)] (pm_pad y q pP pln pa po ped pot pnm psz)) (pm_Qi D (fun (r : Int32) (_ : Unit) => r = (pm_aPut pP pln X).1) (fun (_ : Unit) => pm_pad y q (pm_aPut pP pln X).2.1 (pm_aPut pP pln X).2.2 pa po ped pot pnm psz) (pm_pad y q pP pln pa po ped pot pnm psz)) 0 0 (pm_ad (pm_pad y q pP pln pa po ped pot pnm psz)) := by
  refine Met.ofW (cc := cX1_append) (maxL := 5) (ret := (some .int)) (by decide) rfl ?_
  intro p e s m args below meth c s₁ B hml hpre
  obtain ⟨rfl, hP, hK, hD0⟩ := hpre
  have hx := B.exec
  have hb := B.bytes
  have hr := B.returns
  have hts := atoms_spec (ws := wsX1_append) B.pre
  have hown : s.vm.findClass RX1 = some m.cls := findClass_of_methodNamed B.named
  have hlocks := B.notSynchronized
  have hin1 : ∀ w ∈ u_ws RX1 TX1 8, w ∈ wsX1_append := fun w h => List.mem_cons_of_mem _ (List.mem_append_right _ h)
  have hD := pm_ad_self hD0
  have hS : va_S (pm_ad (pm_pad y q pP pln pa po ped pot pnm psz)) s.heap s.heap [] := va_S.rf
  have hP : va_P D vwCl (pm_pad y q pP pln pa po ped pot pnm psz) s.heap := hP
  have hl := lv_entry ([.ref (q 0), .long (pm_L X)]) (n := 5) (Nat.le_of_ble_eq_true rfl)
  rw [lg_entry_eq]
  generalize (lg_sl ([.ref (q 0), .long (pm_L X)]) ++ List.replicate (5 - (lg_sl ([.ref (q 0), .long (pm_L X)])).length) Slot.unset).toArray = ls at hl ⊢
  have hl : lv_has ls 5 [(0, .ref (q 0)), (1, .long (pm_L X))] := hl
  have hln := hPI.1
  refine lv_lload_n hx hb dX1_append_0 rfl (lv_at hl 1 rfl) ?_
  refine vp_callSi (W.runS (As := [.long (pm_L X)]) (rest := []) ⟨hx, hb, hml, hown, hts⟩ (k_X1_charactersIn l X hX) (va_cwS 1 hts gX1_append_X1_charactersIn rfl rfl rfl hd_X1_charactersIn ⟨Nat.le_of_ble_eq_true rfl, Nat.le_of_ble_eq_true rfl⟩) ⟨pm_no_blind, pm_no_pre⟩ rfl rfl hl.1 rfl (lv_room (Nat.le_of_ble_eq_true rfl)) dX1_append_1 ⟨Nat.le_of_ble_eq_true rfl, Nat.le_of_ble_eq_true rfl⟩) (fun r1 h2 => ?_)
  obtain rfl : r1 = nI (pm_many X) := h2
  have hm8 := (pm_many8 X).1
  refine lv_istore_n (lv' := [(3, .int (nI (pm_many X))), (0, .ref (q 0)), (1, .long (pm_L X))]) hx hb dX1_append_4 rfl hl (by decide) rfl (fun ls hl => ?_)
  refine lv_iload_n hx hb dX1_append_5 rfl (lv_at hl 0 rfl) ?_
  refine kx_if_ne (tgt := 12) hx hb (by omega) dX1_append_6 (by decide) (fun c3 => ?_) (fun c3 => ?_)
  · skip
    refine lv_aload_n hx hb dX1_append_12 rfl (lv_at hl 1 rfl) ?_
    refine va_get (D := D) (ci := 1) (v := .int (nI pln)) (C := RX1) (T := TX1) (N := 8) hx hb hts hin1 hown hK hP 0 rfl rfl 1 (by decide) (hts (.fieldLink RX1 15 "ProofMarks$Pad" "length" "I") (List.mem_of_getElem? (i := 1) rfl)) (fun _ h9 => h9) rfl dX1_append_13 ?_
    refine lv_iload_n hx hb dX1_append_16 rfl (lv_at hl 0 rfl) ?_
    refine kx_iadd hx hb dX1_append_17 ?_
    refine lv_bipush (v := nI 80) hx hb dX1_append_18 (by decide) ?_
    refine kx_icmp_le (tgt := 26) hx hb (by omega) (by decide) dX1_append_20 (by decide) (fun c4 => ?_) (fun c4 => ?_)
    · skip
      refine lv_iload_n hx hb dX1_append_26 rfl (lv_at hl 0 rfl) ?_
      refine lv_iconst (v := nI 1) hx hb dX1_append_27 (by decide) ?_
      refine lv_isub hx hb dX1_append_28 ?_
      refine lv_istore (lv' := [(4, .int ((nI (pm_many X)) - (nI 1))), (3, .int (nI (pm_many X))), (0, .ref (q 0)), (1, .long (pm_L X))]) hx hb dX1_append_29 hl (by decide) rfl (fun ls hl => ?_)
      have LOOP31 : ∀ (n k : Nat) (ls : Array Slot) (H : Heap) (locs : List Loc), va_P D vwCl (pm_pad y q (pm_ap pP pln X (pm_many X) k) (pln + k) pa po ped pot pnm psz) H → va_D (pm_ad (pm_pad y q pP pln pa po ped pot pnm psz)) (pm_pad y q (pm_ap pP pln X (pm_many X) k) (pln + k) pa po ped pot pnm psz) → va_S (pm_ad (pm_pad y q pP pln pa po ped pot pnm psz)) s.heap H locs → k ≤ pm_many X → pm_many X - k < n → lv_has ls 5 [(0, .ref (q 0)), (1, .long (pm_L X)), (4, .int (nI (pm_many X - k) - nI 1))] → W p l e (headSpec wsX1_append ({ frames := 1, cells := 0, slots := 0, locals := 26 } : Room)).room s m ([.ref (q 0), .long (pm_L X)] : List Value).toArray below meth c H locs 0 0 (MQ below (pm_Qi D (fun (r : Int32) (_ : Unit) => r = (pm_aPut pP pln X).1) (fun (_ : Unit) => pm_pad y q (pm_aPut pP pln X).2.1 (pm_aPut pP pln X).2.2 pa po ped pot pnm psz) (pm_pad y q pP pln pa po ped pot pnm psz)) ([.ref (q 0), .long (pm_L X)] : List Value).toArray s 0 0 (pm_ad (pm_pad y q pP pln pa po ped pot pnm psz))) (F0 m 31 ls []) := by
        intro n
        induction n with
        | zero => intro k _ _ _ _ _ _ hi hn; omega
        | succ n ih5 =>
          intro k ls H locs  hP hD hS hi_k hn_k hl 
          refine lv_iload hx hb dX1_append_31 (lv_at hl 2 rfl) ?_
          refine lv_if_lt (tgt := 74) hx hb dX1_append_33 (by decide) (fun c6 => ?_) (fun c6 => ?_)
          · replace c6 := (pm_dn (m := pm_many X - k) (by omega)).mp c6
            refine lv_aload_n hx hb dX1_append_74 rfl (lv_at hl 0 rfl) ?_
            refine va_get (D := D) (ci := 1) (v := .int (nI (pln + k))) (C := RX1) (T := TX1) (N := 8) hx hb hts hin1 hown hK hP 0 rfl rfl 1 (by decide) (hts (.fieldLink RX1 15 "ProofMarks$Pad" "length" "I") (List.mem_of_getElem? (i := 1) rfl)) (fun _ h9 => h9) rfl dX1_append_75 ?_
            have e7 : k = pm_many X := by omega
            rw [e7] at hP ⊢
            have E : pm_aPut pP pln X = (nI (pln + pm_many X), pm_ap pP pln X (pm_many X) (pm_many X), pln + pm_many X) := by rw [pm_aPut, if_neg (by omega), if_neg (by omega)]
            exact W.iret hx hb hr (fun t ht _ => ⟨⟨_, (), rfl, (by rw [E]), (by show va_P D vwCl (pm_pad y q (pm_aPut pP pln X).2.1 (pm_aPut pP pln X).2.2 pa po ped pot pnm psz) t.heap; rw [ht]; exact (by rw [E]; exact hP))⟩, hS.F ht⟩) hS.2.2 dX1_append_78
          · replace c6 := mt (pm_dn (m := pm_many X - k) (by omega)).mpr c6
            refine lv_aload_n hx hb dX1_append_36 rfl (lv_at hl 0 rfl) ?_
            refine va_get (D := D) (ci := 1) (v := .ref (q 1)) (C := RX1) (T := TX1) (N := 8) hx hb hts hin1 hown hK hP 0 rfl rfl 0 (by decide) (hts (.fieldLink RX1 11 "ProofMarks$Pad" "signs" "[C") (List.mem_of_getElem? (i := 2) rfl)) (fun _ h9 => h9) rfl dX1_append_37 ?_
            refine lv_aload_n hx hb dX1_append_40 rfl (lv_at hl 0 rfl) ?_
            refine va_get (D := D) (ci := 1) (v := .int (nI (pln + k))) (C := RX1) (T := TX1) (N := 8) hx hb hts hin1 hown hK hP 0 rfl rfl 1 (by decide) (hts (.fieldLink RX1 15 "ProofMarks$Pad" "length" "I") (List.mem_of_getElem? (i := 1) rfl)) (fun _ h9 => h9) rfl dX1_append_41 ?_
            refine lv_lload_n hx hb dX1_append_44 rfl (lv_at hl 1 rfl) ?_
            refine lv_iload hx hb dX1_append_45 (lv_at hl 2 rfl) ?_
            refine lv_topi (fun x8 e9 => ?_)
            obtain rfl : x8 = nI (pm_many X - k - 1) := e9.trans (pk_sub (by omega))
            refine lv_bipush (v := nI 8) hx hb dX1_append_47 (by decide) ?_
            refine kx_imul hx hb dX1_append_49 ?_
            refine lv_lushr (v := pm_L (X / 256 ^ (pm_many X - k - 1))) hx hb dX1_append_50 (pm_bU hX (by omega)) ?_
            refine lv_ldc2 hx hb hown (hts (.constantLong RX1 42 (255)) (List.mem_of_getElem? (i := 3) rfl)) dX1_append_51 ?_
            refine lv_land hx hb dX1_append_54 ?_
            refine lv_topl (fun x10 e11 => ?_)
            obtain rfl : x10 = pm_L ((X / 256 ^ (pm_many X - k - 1)) % 256) := e11.trans (pm_L_and (X / 256 ^ (pm_many X - k - 1)))
            refine lv_l2i (v := nI ((X / 256 ^ (pm_many X - k - 1)) % 256)) hx hb dX1_append_55 (pm_L_i _) ?_
            have : (X / 256 ^ (pm_many X - k - 1)) % 256 < 256 := Nat.mod_lt _ (by decide)
            refine lv_i2c (v := nI ((X / 256 ^ (pm_many X - k - 1)) % 256)) hx hb dX1_append_56 (pm_i2c (by omega)) ?_
            refine kx_cast (ws' := pm_pad y q (pm_ap pP pln X (pm_many X) (k + 1)) (pln + k) pa po ped pot pnm psz) hx hb hK hP hD hS 1 1 rfl rfl (by omega) (by decide) (pm_nar (by omega)) (pm_ap_s pP pln X (pm_many X) k) rfl dX1_append_57 (fun H locs hP hD hS => ?_)
            refine lv_aload_n hx hb dX1_append_58 rfl (lv_at hl 0 rfl) ?_
            refine lv_dup hx hb dX1_append_59 rfl ?_
            refine va_get (D := D) (ci := 1) (v := .int (nI (pln + k))) (C := RX1) (T := TX1) (N := 8) hx hb hts hin1 hown hK hP 0 rfl rfl 1 (by decide) (hts (.fieldLink RX1 15 "ProofMarks$Pad" "length" "I") (List.mem_of_getElem? (i := 1) rfl)) (fun _ h9 => h9) rfl dX1_append_60 ?_
            refine lv_iconst (v := nI 1) hx hb dX1_append_63 (by decide) ?_
            refine kx_iadd hx hb dX1_append_64 ?_
            refine kx_put (D := D) (ci := 1) (v := .int (nI ((pln + k) + 1))) (ty := .int) (ws' := pm_pad y q (pm_ap pP pln X (pm_many X) (k + 1)) ((pln + k) + 1) pa po ped pot pnm psz) (C := RX1) (T := TX1) (N := 8) hx hb hts hin1 tyX1 tyX1_ok nmX1 hown hK hP hD hS 0 rfl rfl 1 (by decide) (hts (.fieldLink RX1 15 "ProofMarks$Pad" "length" "I") (List.mem_of_getElem? (i := 1) rfl)) (fun _ h9 => h9) rfl (by decide +kernel) rfl rfl (Nat.le_of_ble_eq_true rfl) rfl dX1_append_65 (fun H locs hP hD hS => ?_)
            refine lv_iinc (v := ((nI (pm_many X - k) - nI 1) + -1)) (lv' := [(4, .int ((nI (pm_many X - k) - nI 1) + -1)), (0, .ref (q 0)), (1, .long (pm_L X))]) hx hb dX1_append_68 hl (k := 2) rfl rfl (by decide) rfl (fun ls hl => ?_)
            refine lv_goto (tgt := 31) hx hb dX1_append_71 (by decide) ?_
            have q12 : (nI (pm_many X - (k + 1)) - nI 1 : Int32) = (nI (pm_many X - k) - nI 1) + -1 := (pm_dnb _ _ (by omega))
            exact ih5 (k + 1) ls H locs hP hD hS (by omega) (by omega) (by rw [q12]; exact lv_sub hl [1, 2, 0] rfl) 
      exact LOOP31 (pm_many X + 1) 0 ls _ _ (by rw [pm_ap_0]; exact hP) (by rw [pm_ap_0]; exact hD) hS (by omega) (by omega) (lv_sub hl [2, 3, 0] rfl) 
    · skip
      refine lv_bipush (v := (-4)) hx hb dX1_append_23 (by decide) ?_
      have E : pm_aPut pP pln X = (-4, pP, pln) := by rw [pm_aPut, if_neg (by omega), if_pos (by omega)]
      exact W.iret hx hb hr (fun t ht _ => ⟨⟨_, (), rfl, (by rw [E]), (by show va_P D vwCl (pm_pad y q (pm_aPut pP pln X).2.1 (pm_aPut pP pln X).2.2 pa po ped pot pnm psz) t.heap; rw [ht]; exact (by rw [E]; exact hP))⟩, hS.F ht⟩) hS.2.2 dX1_append_25
  · skip
    refine lv_bipush (v := (-2)) hx hb dX1_append_9 (by decide) ?_
    have E : pm_aPut pP pln X = (-2, pP, pln) := if_pos (by omega)
    exact W.iret hx hb hr (fun t ht _ => ⟨⟨_, (), rfl, (by rw [E]), (by show va_P D vwCl (pm_pad y q (pm_aPut pP pln X).2.1 (pm_aPut pP pln X).2.2 pa po ped pot pnm psz) t.heap; rw [ht]; exact (by rw [E]; exact hP))⟩, hS.F ht⟩) hS.2.2 dX1_append_11
