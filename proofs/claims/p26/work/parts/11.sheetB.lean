theorem pm_bitc : ∀ tn, tn < 8 → ((((((((nI tn) - ((((nI tn).toUInt32 >>> ((nI 1).toUInt32 &&& Int32.toUInt32 31)).toInt32) &&& 1431655765)) &&& 858993459) + (((((nI tn) - ((((nI tn).toUInt32 >>> ((nI 1).toUInt32 &&& Int32.toUInt32 31)).toInt32) &&& 1431655765)).toUInt32 >>> ((nI 2).toUInt32 &&& Int32.toUInt32 31)).toInt32) &&& 858993459)) + ((((((nI tn) - ((((nI tn).toUInt32 >>> ((nI 1).toUInt32 &&& Int32.toUInt32 31)).toInt32) &&& 1431655765)) &&& 858993459) + (((((nI tn) - ((((nI tn).toUInt32 >>> ((nI 1).toUInt32 &&& Int32.toUInt32 31)).toInt32) &&& 1431655765)).toUInt32 >>> ((nI 2).toUInt32 &&& Int32.toUInt32 31)).toInt32) &&& 858993459)).toUInt32 >>> ((nI 4).toUInt32 &&& Int32.toUInt32 31)).toInt32)) &&& 252645135) + ((((((((nI tn) - ((((nI tn).toUInt32 >>> ((nI 1).toUInt32 &&& Int32.toUInt32 31)).toInt32) &&& 1431655765)) &&& 858993459) + (((((nI tn) - ((((nI tn).toUInt32 >>> ((nI 1).toUInt32 &&& Int32.toUInt32 31)).toInt32) &&& 1431655765)).toUInt32 >>> ((nI 2).toUInt32 &&& Int32.toUInt32 31)).toInt32) &&& 858993459)) + ((((((nI tn) - ((((nI tn).toUInt32 >>> ((nI 1).toUInt32 &&& Int32.toUInt32 31)).toInt32) &&& 1431655765)) &&& 858993459) + (((((nI tn) - ((((nI tn).toUInt32 >>> ((nI 1).toUInt32 &&& Int32.toUInt32 31)).toInt32) &&& 1431655765)).toUInt32 >>> ((nI 2).toUInt32 &&& Int32.toUInt32 31)).toInt32) &&& 858993459)).toUInt32 >>> ((nI 4).toUInt32 &&& Int32.toUInt32 31)).toInt32)) &&& 252645135).toUInt32 >>> ((nI 8).toUInt32 &&& Int32.toUInt32 31)).toInt32)) + (((((((((nI tn) - ((((nI tn).toUInt32 >>> ((nI 1).toUInt32 &&& Int32.toUInt32 31)).toInt32) &&& 1431655765)) &&& 858993459) + (((((nI tn) - ((((nI tn).toUInt32 >>> ((nI 1).toUInt32 &&& Int32.toUInt32 31)).toInt32) &&& 1431655765)).toUInt32 >>> ((nI 2).toUInt32 &&& Int32.toUInt32 31)).toInt32) &&& 858993459)) + ((((((nI tn) - ((((nI tn).toUInt32 >>> ((nI 1).toUInt32 &&& Int32.toUInt32 31)).toInt32) &&& 1431655765)) &&& 858993459) + (((((nI tn) - ((((nI tn).toUInt32 >>> ((nI 1).toUInt32 &&& Int32.toUInt32 31)).toInt32) &&& 1431655765)).toUInt32 >>> ((nI 2).toUInt32 &&& Int32.toUInt32 31)).toInt32) &&& 858993459)).toUInt32 >>> ((nI 4).toUInt32 &&& Int32.toUInt32 31)).toInt32)) &&& 252645135) + ((((((((nI tn) - ((((nI tn).toUInt32 >>> ((nI 1).toUInt32 &&& Int32.toUInt32 31)).toInt32) &&& 1431655765)) &&& 858993459) + (((((nI tn) - ((((nI tn).toUInt32 >>> ((nI 1).toUInt32 &&& Int32.toUInt32 31)).toInt32) &&& 1431655765)).toUInt32 >>> ((nI 2).toUInt32 &&& Int32.toUInt32 31)).toInt32) &&& 858993459)) + ((((((nI tn) - ((((nI tn).toUInt32 >>> ((nI 1).toUInt32 &&& Int32.toUInt32 31)).toInt32) &&& 1431655765)) &&& 858993459) + (((((nI tn) - ((((nI tn).toUInt32 >>> ((nI 1).toUInt32 &&& Int32.toUInt32 31)).toInt32) &&& 1431655765)).toUInt32 >>> ((nI 2).toUInt32 &&& Int32.toUInt32 31)).toInt32) &&& 858993459)).toUInt32 >>> ((nI 4).toUInt32 &&& Int32.toUInt32 31)).toInt32)) &&& 252645135).toUInt32 >>> ((nI 8).toUInt32 &&& Int32.toUInt32 31)).toInt32)).toUInt32 >>> ((nI 16).toUInt32 &&& Int32.toUInt32 31)).toInt32)) &&& (nI 63) = nI (pm_pc tn) := by decide +kernel
set_option maxHeartbeats 4000000 in
set_option maxRecDepth 100000 in
theorem k_J6_bitCount_0f7a4 (l : Launch) (tn : Nat) (htn : tn < 8) : Met l yJ6_bitCount_0f7a4 wsJ6_bitCount_0f7a4 ({ frames := 0, cells := 0, slots := 0, locals := 0 } : Room) (pm_no [.int (nI tn)]) (vp_Si (fun r : Int32 => r = nI (pm_pc tn))) 0 0 (fun _ => False) := by
  refine Met.ofW (cc := cJ6_bitCount_0f7a4) (maxL := 1) (ret := (some .int)) (by decide) rfl ?_
  intro p e s m args below meth c s₁ B hml hpre
  obtain ⟨rfl, -⟩ := hpre
  have hx := B.exec
  have hb := B.bytes
  have hr := B.returns
  have hts := atoms_spec (ws := wsJ6_bitCount_0f7a4) B.pre
  have hown : s.vm.findClass RJ6 = some m.cls := findClass_of_methodNamed B.named
  have hlocks := B.notSynchronized
  have hl := lv_entry ([.int (nI tn)]) (n := 1) (Nat.le_of_ble_eq_true rfl)
  rw [lg_entry_eq]
  generalize (lg_sl ([.int (nI tn)]) ++ List.replicate (1 - (lg_sl ([.int (nI tn)])).length) Slot.unset).toArray = ls at hl ⊢
  have hl : lv_has ls 1 [(0, .int (nI tn))] := hl
  refine lv_iload_n hx hb dJ6_bitCount_0f7a4_0 rfl (lv_at hl 0 rfl) ?_
  refine lv_iload_n hx hb dJ6_bitCount_0f7a4_1 rfl (lv_at hl 0 rfl) ?_
  refine lv_iconst (v := nI 1) hx hb dJ6_bitCount_0f7a4_2 (by decide) ?_
  refine lv_iushr (v := ((nI tn).toUInt32 >>> ((nI 1).toUInt32 &&& Int32.toUInt32 31)).toInt32) hx hb dJ6_bitCount_0f7a4_3 rfl ?_
  refine lv_ldcw hx hb hown (hts (.constant RJ6 265 (1431655765)) (List.mem_of_getElem? (i := 1) rfl)) dJ6_bitCount_0f7a4_4 ?_
  refine lv_iand hx hb dJ6_bitCount_0f7a4_7 ?_
  refine lv_isub hx hb dJ6_bitCount_0f7a4_8 ?_
  refine lv_istore_n (lv' := [(0, .int ((nI tn) - ((((nI tn).toUInt32 >>> ((nI 1).toUInt32 &&& Int32.toUInt32 31)).toInt32) &&& 1431655765)))]) hx hb dJ6_bitCount_0f7a4_9 rfl hl (by decide) rfl (fun ls hl => ?_)
  refine lv_iload_n hx hb dJ6_bitCount_0f7a4_10 rfl (lv_at hl 0 rfl) ?_
  refine lv_ldcw hx hb hown (hts (.constant RJ6 266 (858993459)) (List.mem_of_getElem? (i := 2) rfl)) dJ6_bitCount_0f7a4_11 ?_
  refine lv_iand hx hb dJ6_bitCount_0f7a4_14 ?_
  refine lv_iload_n hx hb dJ6_bitCount_0f7a4_15 rfl (lv_at hl 0 rfl) ?_
  refine lv_iconst (v := nI 2) hx hb dJ6_bitCount_0f7a4_16 (by decide) ?_
  refine lv_iushr (v := (((nI tn) - ((((nI tn).toUInt32 >>> ((nI 1).toUInt32 &&& Int32.toUInt32 31)).toInt32) &&& 1431655765)).toUInt32 >>> ((nI 2).toUInt32 &&& Int32.toUInt32 31)).toInt32) hx hb dJ6_bitCount_0f7a4_17 rfl ?_
  refine lv_ldcw hx hb hown (hts (.constant RJ6 266 (858993459)) (List.mem_of_getElem? (i := 2) rfl)) dJ6_bitCount_0f7a4_18 ?_
  refine lv_iand hx hb dJ6_bitCount_0f7a4_21 ?_
  refine lv_iadd hx hb dJ6_bitCount_0f7a4_22 ?_
  refine lv_istore_n (lv' := [(0, .int ((((nI tn) - ((((nI tn).toUInt32 >>> ((nI 1).toUInt32 &&& Int32.toUInt32 31)).toInt32) &&& 1431655765)) &&& 858993459) + (((((nI tn) - ((((nI tn).toUInt32 >>> ((nI 1).toUInt32 &&& Int32.toUInt32 31)).toInt32) &&& 1431655765)).toUInt32 >>> ((nI 2).toUInt32 &&& Int32.toUInt32 31)).toInt32) &&& 858993459)))]) hx hb dJ6_bitCount_0f7a4_23 rfl hl (by decide) rfl (fun ls hl => ?_)
  refine lv_iload_n hx hb dJ6_bitCount_0f7a4_24 rfl (lv_at hl 0 rfl) ?_
  refine lv_iload_n hx hb dJ6_bitCount_0f7a4_25 rfl (lv_at hl 0 rfl) ?_
  refine lv_iconst (v := nI 4) hx hb dJ6_bitCount_0f7a4_26 (by decide) ?_
  refine lv_iushr (v := (((((nI tn) - ((((nI tn).toUInt32 >>> ((nI 1).toUInt32 &&& Int32.toUInt32 31)).toInt32) &&& 1431655765)) &&& 858993459) + (((((nI tn) - ((((nI tn).toUInt32 >>> ((nI 1).toUInt32 &&& Int32.toUInt32 31)).toInt32) &&& 1431655765)).toUInt32 >>> ((nI 2).toUInt32 &&& Int32.toUInt32 31)).toInt32) &&& 858993459)).toUInt32 >>> ((nI 4).toUInt32 &&& Int32.toUInt32 31)).toInt32) hx hb dJ6_bitCount_0f7a4_27 rfl ?_
  refine lv_iadd hx hb dJ6_bitCount_0f7a4_28 ?_
  refine lv_ldcw hx hb hown (hts (.constant RJ6 267 (252645135)) (List.mem_of_getElem? (i := 3) rfl)) dJ6_bitCount_0f7a4_29 ?_
  refine lv_iand hx hb dJ6_bitCount_0f7a4_32 ?_
  refine lv_istore_n (lv' := [(0, .int ((((((nI tn) - ((((nI tn).toUInt32 >>> ((nI 1).toUInt32 &&& Int32.toUInt32 31)).toInt32) &&& 1431655765)) &&& 858993459) + (((((nI tn) - ((((nI tn).toUInt32 >>> ((nI 1).toUInt32 &&& Int32.toUInt32 31)).toInt32) &&& 1431655765)).toUInt32 >>> ((nI 2).toUInt32 &&& Int32.toUInt32 31)).toInt32) &&& 858993459)) + ((((((nI tn) - ((((nI tn).toUInt32 >>> ((nI 1).toUInt32 &&& Int32.toUInt32 31)).toInt32) &&& 1431655765)) &&& 858993459) + (((((nI tn) - ((((nI tn).toUInt32 >>> ((nI 1).toUInt32 &&& Int32.toUInt32 31)).toInt32) &&& 1431655765)).toUInt32 >>> ((nI 2).toUInt32 &&& Int32.toUInt32 31)).toInt32) &&& 858993459)).toUInt32 >>> ((nI 4).toUInt32 &&& Int32.toUInt32 31)).toInt32)) &&& 252645135))]) hx hb dJ6_bitCount_0f7a4_33 rfl hl (by decide) rfl (fun ls hl => ?_)
  refine lv_iload_n hx hb dJ6_bitCount_0f7a4_34 rfl (lv_at hl 0 rfl) ?_
  refine lv_iload_n hx hb dJ6_bitCount_0f7a4_35 rfl (lv_at hl 0 rfl) ?_
  refine lv_bipush (v := nI 8) hx hb dJ6_bitCount_0f7a4_36 (by decide) ?_
  refine lv_iushr (v := (((((((nI tn) - ((((nI tn).toUInt32 >>> ((nI 1).toUInt32 &&& Int32.toUInt32 31)).toInt32) &&& 1431655765)) &&& 858993459) + (((((nI tn) - ((((nI tn).toUInt32 >>> ((nI 1).toUInt32 &&& Int32.toUInt32 31)).toInt32) &&& 1431655765)).toUInt32 >>> ((nI 2).toUInt32 &&& Int32.toUInt32 31)).toInt32) &&& 858993459)) + ((((((nI tn) - ((((nI tn).toUInt32 >>> ((nI 1).toUInt32 &&& Int32.toUInt32 31)).toInt32) &&& 1431655765)) &&& 858993459) + (((((nI tn) - ((((nI tn).toUInt32 >>> ((nI 1).toUInt32 &&& Int32.toUInt32 31)).toInt32) &&& 1431655765)).toUInt32 >>> ((nI 2).toUInt32 &&& Int32.toUInt32 31)).toInt32) &&& 858993459)).toUInt32 >>> ((nI 4).toUInt32 &&& Int32.toUInt32 31)).toInt32)) &&& 252645135).toUInt32 >>> ((nI 8).toUInt32 &&& Int32.toUInt32 31)).toInt32) hx hb dJ6_bitCount_0f7a4_38 rfl ?_
  refine lv_iadd hx hb dJ6_bitCount_0f7a4_39 ?_
  refine lv_istore_n (lv' := [(0, .int (((((((nI tn) - ((((nI tn).toUInt32 >>> ((nI 1).toUInt32 &&& Int32.toUInt32 31)).toInt32) &&& 1431655765)) &&& 858993459) + (((((nI tn) - ((((nI tn).toUInt32 >>> ((nI 1).toUInt32 &&& Int32.toUInt32 31)).toInt32) &&& 1431655765)).toUInt32 >>> ((nI 2).toUInt32 &&& Int32.toUInt32 31)).toInt32) &&& 858993459)) + ((((((nI tn) - ((((nI tn).toUInt32 >>> ((nI 1).toUInt32 &&& Int32.toUInt32 31)).toInt32) &&& 1431655765)) &&& 858993459) + (((((nI tn) - ((((nI tn).toUInt32 >>> ((nI 1).toUInt32 &&& Int32.toUInt32 31)).toInt32) &&& 1431655765)).toUInt32 >>> ((nI 2).toUInt32 &&& Int32.toUInt32 31)).toInt32) &&& 858993459)).toUInt32 >>> ((nI 4).toUInt32 &&& Int32.toUInt32 31)).toInt32)) &&& 252645135) + ((((((((nI tn) - ((((nI tn).toUInt32 >>> ((nI 1).toUInt32 &&& Int32.toUInt32 31)).toInt32) &&& 1431655765)) &&& 858993459) + (((((nI tn) - ((((nI tn).toUInt32 >>> ((nI 1).toUInt32 &&& Int32.toUInt32 31)).toInt32) &&& 1431655765)).toUInt32 >>> ((nI 2).toUInt32 &&& Int32.toUInt32 31)).toInt32) &&& 858993459)) + ((((((nI tn) - ((((nI tn).toUInt32 >>> ((nI 1).toUInt32 &&& Int32.toUInt32 31)).toInt32) &&& 1431655765)) &&& 858993459) + (((((nI tn) - ((((nI tn).toUInt32 >>> ((nI 1).toUInt32 &&& Int32.toUInt32 31)).toInt32) &&& 1431655765)).toUInt32 >>> ((nI 2).toUInt32 &&& Int32.toUInt32 31)).toInt32) &&& 858993459)).toUInt32 >>> ((nI 4).toUInt32 &&& Int32.toUInt32 31)).toInt32)) &&& 252645135).toUInt32 >>> ((nI 8).toUInt32 &&& Int32.toUInt32 31)).toInt32)))]) hx hb dJ6_bitCount_0f7a4_40 rfl hl (by decide) rfl (fun ls hl => ?_)
  refine lv_iload_n hx hb dJ6_bitCount_0f7a4_41 rfl (lv_at hl 0 rfl) ?_
  refine lv_iload_n hx hb dJ6_bitCount_0f7a4_42 rfl (lv_at hl 0 rfl) ?_
  refine lv_bipush (v := nI 16) hx hb dJ6_bitCount_0f7a4_43 (by decide) ?_
  refine lv_iushr (v := ((((((((nI tn) - ((((nI tn).toUInt32 >>> ((nI 1).toUInt32 &&& Int32.toUInt32 31)).toInt32) &&& 1431655765)) &&& 858993459) + (((((nI tn) - ((((nI tn).toUInt32 >>> ((nI 1).toUInt32 &&& Int32.toUInt32 31)).toInt32) &&& 1431655765)).toUInt32 >>> ((nI 2).toUInt32 &&& Int32.toUInt32 31)).toInt32) &&& 858993459)) + ((((((nI tn) - ((((nI tn).toUInt32 >>> ((nI 1).toUInt32 &&& Int32.toUInt32 31)).toInt32) &&& 1431655765)) &&& 858993459) + (((((nI tn) - ((((nI tn).toUInt32 >>> ((nI 1).toUInt32 &&& Int32.toUInt32 31)).toInt32) &&& 1431655765)).toUInt32 >>> ((nI 2).toUInt32 &&& Int32.toUInt32 31)).toInt32) &&& 858993459)).toUInt32 >>> ((nI 4).toUInt32 &&& Int32.toUInt32 31)).toInt32)) &&& 252645135) + ((((((((nI tn) - ((((nI tn).toUInt32 >>> ((nI 1).toUInt32 &&& Int32.toUInt32 31)).toInt32) &&& 1431655765)) &&& 858993459) + (((((nI tn) - ((((nI tn).toUInt32 >>> ((nI 1).toUInt32 &&& Int32.toUInt32 31)).toInt32) &&& 1431655765)).toUInt32 >>> ((nI 2).toUInt32 &&& Int32.toUInt32 31)).toInt32) &&& 858993459)) + ((((((nI tn) - ((((nI tn).toUInt32 >>> ((nI 1).toUInt32 &&& Int32.toUInt32 31)).toInt32) &&& 1431655765)) &&& 858993459) + (((((nI tn) - ((((nI tn).toUInt32 >>> ((nI 1).toUInt32 &&& Int32.toUInt32 31)).toInt32) &&& 1431655765)).toUInt32 >>> ((nI 2).toUInt32 &&& Int32.toUInt32 31)).toInt32) &&& 858993459)).toUInt32 >>> ((nI 4).toUInt32 &&& Int32.toUInt32 31)).toInt32)) &&& 252645135).toUInt32 >>> ((nI 8).toUInt32 &&& Int32.toUInt32 31)).toInt32)).toUInt32 >>> ((nI 16).toUInt32 &&& Int32.toUInt32 31)).toInt32) hx hb dJ6_bitCount_0f7a4_45 rfl ?_
  refine lv_iadd hx hb dJ6_bitCount_0f7a4_46 ?_
  refine lv_istore_n (lv' := [(0, .int ((((((((nI tn) - ((((nI tn).toUInt32 >>> ((nI 1).toUInt32 &&& Int32.toUInt32 31)).toInt32) &&& 1431655765)) &&& 858993459) + (((((nI tn) - ((((nI tn).toUInt32 >>> ((nI 1).toUInt32 &&& Int32.toUInt32 31)).toInt32) &&& 1431655765)).toUInt32 >>> ((nI 2).toUInt32 &&& Int32.toUInt32 31)).toInt32) &&& 858993459)) + ((((((nI tn) - ((((nI tn).toUInt32 >>> ((nI 1).toUInt32 &&& Int32.toUInt32 31)).toInt32) &&& 1431655765)) &&& 858993459) + (((((nI tn) - ((((nI tn).toUInt32 >>> ((nI 1).toUInt32 &&& Int32.toUInt32 31)).toInt32) &&& 1431655765)).toUInt32 >>> ((nI 2).toUInt32 &&& Int32.toUInt32 31)).toInt32) &&& 858993459)).toUInt32 >>> ((nI 4).toUInt32 &&& Int32.toUInt32 31)).toInt32)) &&& 252645135) + ((((((((nI tn) - ((((nI tn).toUInt32 >>> ((nI 1).toUInt32 &&& Int32.toUInt32 31)).toInt32) &&& 1431655765)) &&& 858993459) + (((((nI tn) - ((((nI tn).toUInt32 >>> ((nI 1).toUInt32 &&& Int32.toUInt32 31)).toInt32) &&& 1431655765)).toUInt32 >>> ((nI 2).toUInt32 &&& Int32.toUInt32 31)).toInt32) &&& 858993459)) + ((((((nI tn) - ((((nI tn).toUInt32 >>> ((nI 1).toUInt32 &&& Int32.toUInt32 31)).toInt32) &&& 1431655765)) &&& 858993459) + (((((nI tn) - ((((nI tn).toUInt32 >>> ((nI 1).toUInt32 &&& Int32.toUInt32 31)).toInt32) &&& 1431655765)).toUInt32 >>> ((nI 2).toUInt32 &&& Int32.toUInt32 31)).toInt32) &&& 858993459)).toUInt32 >>> ((nI 4).toUInt32 &&& Int32.toUInt32 31)).toInt32)) &&& 252645135).toUInt32 >>> ((nI 8).toUInt32 &&& Int32.toUInt32 31)).toInt32)) + (((((((((nI tn) - ((((nI tn).toUInt32 >>> ((nI 1).toUInt32 &&& Int32.toUInt32 31)).toInt32) &&& 1431655765)) &&& 858993459) + (((((nI tn) - ((((nI tn).toUInt32 >>> ((nI 1).toUInt32 &&& Int32.toUInt32 31)).toInt32) &&& 1431655765)).toUInt32 >>> ((nI 2).toUInt32 &&& Int32.toUInt32 31)).toInt32) &&& 858993459)) + ((((((nI tn) - ((((nI tn).toUInt32 >>> ((nI 1).toUInt32 &&& Int32.toUInt32 31)).toInt32) &&& 1431655765)) &&& 858993459) + (((((nI tn) - ((((nI tn).toUInt32 >>> ((nI 1).toUInt32 &&& Int32.toUInt32 31)).toInt32) &&& 1431655765)).toUInt32 >>> ((nI 2).toUInt32 &&& Int32.toUInt32 31)).toInt32) &&& 858993459)).toUInt32 >>> ((nI 4).toUInt32 &&& Int32.toUInt32 31)).toInt32)) &&& 252645135) + ((((((((nI tn) - ((((nI tn).toUInt32 >>> ((nI 1).toUInt32 &&& Int32.toUInt32 31)).toInt32) &&& 1431655765)) &&& 858993459) + (((((nI tn) - ((((nI tn).toUInt32 >>> ((nI 1).toUInt32 &&& Int32.toUInt32 31)).toInt32) &&& 1431655765)).toUInt32 >>> ((nI 2).toUInt32 &&& Int32.toUInt32 31)).toInt32) &&& 858993459)) + ((((((nI tn) - ((((nI tn).toUInt32 >>> ((nI 1).toUInt32 &&& Int32.toUInt32 31)).toInt32) &&& 1431655765)) &&& 858993459) + (((((nI tn) - ((((nI tn).toUInt32 >>> ((nI 1).toUInt32 &&& Int32.toUInt32 31)).toInt32) &&& 1431655765)).toUInt32 >>> ((nI 2).toUInt32 &&& Int32.toUInt32 31)).toInt32) &&& 858993459)).toUInt32 >>> ((nI 4).toUInt32 &&& Int32.toUInt32 31)).toInt32)) &&& 252645135).toUInt32 >>> ((nI 8).toUInt32 &&& Int32.toUInt32 31)).toInt32)).toUInt32 >>> ((nI 16).toUInt32 &&& Int32.toUInt32 31)).toInt32)))]) hx hb dJ6_bitCount_0f7a4_47 rfl hl (by decide) rfl (fun ls hl => ?_)
  refine lv_iload_n hx hb dJ6_bitCount_0f7a4_48 rfl (lv_at hl 0 rfl) ?_
  refine lv_bipush (v := nI 63) hx hb dJ6_bitCount_0f7a4_49 (by decide) ?_
  refine lv_iand hx hb dJ6_bitCount_0f7a4_51 ?_
  exact W.iret hx hb hr (fun t ht _ => ⟨_, rfl, (pm_bitc tn htn), ht⟩) (fun _ h => absurd h List.not_mem_nil) dJ6_bitCount_0f7a4_52

set_option maxHeartbeats 4000000 in
set_option maxRecDepth 100000 in
theorem k_X2_isWanted (l : Launch) (D : va_G) (y : Nat → ClassId) (q : Nat → Nat) (S : Nat → Nat → Nat) (t c9 : Nat) (hs : S 9 0 ≤ 9) (ht : t < 8) (hc : c9 < 8) : Met l yX2_isWanted wsX2_isWanted ({ frames := 1, cells := 0, slots := 0, locals := 20 } : Room) (pm_ro D (pm_ty y) [.ref (q 0), .int (nI t), .int (nI c9)] (pm_shS y q S)) (vp_Si (fun r : Int32 => ((c9 = 0 ∧ S 9 0 ≤ pm_pc t) ∧ r = nI 1) ∨ (¬ (c9 = 0 ∧ S 9 0 ≤ pm_pc t) ∧ r = nI 0))) 0 0 (fun _ => False) := by
  refine Met.ofW (cc := cX2_isWanted) (maxL := 3) (ret := (some .boolean)) (by decide) rfl ?_
  intro p e s m args below meth c s₁ B hml hpre
  obtain ⟨rfl, hP, hK⟩ := hpre
  have hx := B.exec
  have hb := B.bytes
  have hr := B.returns
  have hts := atoms_spec (ws := wsX2_isWanted) B.pre
  have hown : s.vm.findClass RX2 = some m.cls := findClass_of_methodNamed B.named
  have hlocks := B.notSynchronized
  have hin2 : ∀ w ∈ u_ws RX2 TX2 15, w ∈ wsX2_isWanted := fun w h => List.mem_cons_of_mem _ (List.mem_append_right _ h)
  have hP : va_P D vwCl (pm_shS y q S) s.heap := hP
  have hl := lv_entry ([.ref (q 0), .int (nI t), .int (nI c9)]) (n := 3) (Nat.le_of_ble_eq_true rfl)
  rw [lg_entry_eq]
  generalize (lg_sl ([.ref (q 0), .int (nI t), .int (nI c9)]) ++ List.replicate (3 - (lg_sl ([.ref (q 0), .int (nI t), .int (nI c9)])).length) Slot.unset).toArray = ls at hl ⊢
  have hl : lv_has ls 3 [(0, .ref (q 0)), (1, .int (nI t)), (2, .int (nI c9))] := hl
  refine lv_iload_n hx hb dX2_isWanted_0 rfl (lv_at hl 2 rfl) ?_
  refine kx_if_ne (tgt := 21) hx hb (by omega) dX2_isWanted_1 (by decide) (fun c1 => ?_) (fun c1 => ?_)
  · skip
    refine lv_iconst (v := nI 0) hx hb dX2_isWanted_21 (by decide) ?_
    exact W.zret (ty := .boolean) hx hb hr rfl (fun t ht _ => ⟨_, rfl, (Or.inr ⟨(by omega), rfl⟩), ht⟩) (fun _ h => absurd h List.not_mem_nil) dX2_isWanted_22
  · skip
    refine lv_iload_n hx hb dX2_isWanted_4 rfl (lv_at hl 1 rfl) ?_
    refine vp_callSi (W.runS (As := [.int (nI t)]) (rest := []) ⟨hx, hb, hml, hown, hts⟩ (k_J6_bitCount_0f7a4 l t (by omega)) (va_cwS 1 hts gX2_isWanted_J6_bitCount_0f7a4 rfl rfl rfl hd_J6_bitCount_0f7a4 ⟨Nat.le_of_ble_eq_true rfl, Nat.le_of_ble_eq_true rfl⟩) ⟨pm_no_blind, pm_no_pre⟩ rfl rfl hl.1 rfl (lv_room (Nat.le_of_ble_eq_true rfl)) dX2_isWanted_5 ⟨Nat.le_of_ble_eq_true rfl, Nat.le_of_ble_eq_true rfl⟩) (fun r2 h3 => ?_)
    obtain rfl : r2 = nI (pm_pc t) := h3
    have := pm_pc4 t
    refine lv_aload_n hx hb dX2_isWanted_8 rfl (lv_at hl 0 rfl) ?_
    refine va_get (D := D) (ci := 2) (v := .ref (q 1)) (C := RX2) (T := TX2) (N := 15) hx hb hts hin2 hown hK hP 0 rfl rfl 0 (by decide) (hts (.fieldLink RX2 11 "ProofMarks$Sheet" "settings" "[I") (List.mem_of_getElem? (i := 1) rfl)) (fun _ h9 => h9) rfl dX2_isWanted_9 ?_
    refine lv_iconst (v := nI 0) hx hb dX2_isWanted_12 (by decide) ?_
    refine kx_iald (v := nI ((S 9) 0)) hx hb hK hP 1 0 rfl rfl (by omega) (by decide) rfl dX2_isWanted_13 ?_
    refine kx_icmp_lt (tgt := 21) hx hb (by omega) (by omega) dX2_isWanted_14 (by decide) (fun c4 => ?_) (fun c4 => ?_)
    · skip
      refine lv_iconst (v := nI 0) hx hb dX2_isWanted_21 (by decide) ?_
      exact W.zret (ty := .boolean) hx hb hr rfl (fun t ht _ => ⟨_, rfl, (Or.inr ⟨(by omega), rfl⟩), ht⟩) (fun _ h => absurd h List.not_mem_nil) dX2_isWanted_22
    · skip
      refine lv_iconst (v := nI 1) hx hb dX2_isWanted_17 (by decide) ?_
      refine lv_goto (tgt := 22) hx hb dX2_isWanted_18 (by decide) ?_
      exact W.zret (ty := .boolean) hx hb hr rfl (fun t ht _ => ⟨_, rfl, (Or.inl ⟨(by omega), rfl⟩), ht⟩) (fun _ h => absurd h List.not_mem_nil) dX2_isWanted_22

set_option maxHeartbeats 4000000 in
set_option maxRecDepth 100000 in
theorem k_X2_isPicked (l : Launch) (D : va_G) (y : Nat → ClassId) (q : Nat → Nat) (S : Nat → Nat → Nat) (f : Nat) (hI : pm_Inv S) (hf : f < 30) : Met l yX2_isPicked wsX2_isPicked ({ frames := 0, cells := 0, slots := 0, locals := 0 } : Room) (pm_ro D (pm_ty y) [.ref (q 0), .int (nI f)] (pm_shS y q S)) (vp_Si (fun r : Int32 => ((S 0 f = 1 ∨ S 0 f = 3) ∧ r = nI 1) ∨ (¬ (S 0 f = 1 ∨ S 0 f = 3) ∧ r = nI 0))) 0 0 (fun _ => False) := by
  refine Met.ofW (cc := cX2_isPicked) (maxL := 2) (ret := (some .boolean)) (by decide) rfl ?_
  intro p e s m args below meth c s₁ B hml hpre
  obtain ⟨rfl, hP, hK⟩ := hpre
  have hx := B.exec
  have hb := B.bytes
  have hr := B.returns
  have hts := atoms_spec (ws := wsX2_isPicked) B.pre
  have hown : s.vm.findClass RX2 = some m.cls := findClass_of_methodNamed B.named
  have hlocks := B.notSynchronized
  have hin2 : ∀ w ∈ u_ws RX2 TX2 15, w ∈ wsX2_isPicked := fun w h => List.mem_cons_of_mem _ (List.mem_append_right _ h)
  have hP : va_P D vwCl (pm_shS y q S) s.heap := hP
  have hl := lv_entry ([.ref (q 0), .int (nI f)]) (n := 2) (Nat.le_of_ble_eq_true rfl)
  rw [lg_entry_eq]
  generalize (lg_sl ([.ref (q 0), .int (nI f)]) ++ List.replicate (2 - (lg_sl ([.ref (q 0), .int (nI f)])).length) Slot.unset).toArray = ls at hl ⊢
  have hl : lv_has ls 2 [(0, .ref (q 0)), (1, .int (nI f))] := hl
  refine lv_aload_n hx hb dX2_isPicked_0 rfl (lv_at hl 0 rfl) ?_
  refine va_get (D := D) (ci := 2) (v := .ref (q 2)) (C := RX2) (T := TX2) (N := 15) hx hb hts hin2 hown hK hP 0 rfl rfl 1 (by decide) (hts (.fieldLink RX2 15 "ProofMarks$Sheet" "how" "[I") (List.mem_of_getElem? (i := 1) rfl)) (fun _ h9 => h9) rfl dX2_isPicked_1 ?_
  refine lv_iload_n hx hb dX2_isPicked_4 rfl (lv_at hl 1 rfl) ?_
  refine kx_iald (v := nI ((S 0) f)) hx hb hK hP 2 0 rfl rfl (by omega) (by decide) rfl dX2_isPicked_5 ?_
  have := hI.how f (by omega)
  refine lv_iconst (v := nI 1) hx hb dX2_isPicked_6 (by decide) ?_
  refine kx_icmp_eq (tgt := 20) hx hb (by omega) (by decide) dX2_isPicked_7 (by decide) (fun c1 => ?_) (fun c1 => ?_)
  · skip
    refine lv_iconst (v := nI 1) hx hb dX2_isPicked_20 (by decide) ?_
    refine lv_goto (tgt := 25) hx hb dX2_isPicked_21 (by decide) ?_
    exact W.zret (ty := .boolean) hx hb hr rfl (fun t ht _ => ⟨_, rfl, (Or.inl ⟨(by omega), rfl⟩), ht⟩) (fun _ h => absurd h List.not_mem_nil) dX2_isPicked_25
  · skip
    refine lv_aload_n hx hb dX2_isPicked_10 rfl (lv_at hl 0 rfl) ?_
    refine va_get (D := D) (ci := 2) (v := .ref (q 2)) (C := RX2) (T := TX2) (N := 15) hx hb hts hin2 hown hK hP 0 rfl rfl 1 (by decide) (hts (.fieldLink RX2 15 "ProofMarks$Sheet" "how" "[I") (List.mem_of_getElem? (i := 1) rfl)) (fun _ h9 => h9) rfl dX2_isPicked_11 ?_
    refine lv_iload_n hx hb dX2_isPicked_14 rfl (lv_at hl 1 rfl) ?_
    refine kx_iald (v := nI ((S 0) f)) hx hb hK hP 2 0 rfl rfl (by omega) (by decide) rfl dX2_isPicked_15 ?_
    have := hI.how f (by omega)
    refine lv_iconst (v := nI 3) hx hb dX2_isPicked_16 (by decide) ?_
    refine kx_icmp_ne (tgt := 24) hx hb (by omega) (by decide) dX2_isPicked_17 (by decide) (fun c2 => ?_) (fun c2 => ?_)
    · skip
      refine lv_iconst (v := nI 0) hx hb dX2_isPicked_24 (by decide) ?_
      exact W.zret (ty := .boolean) hx hb hr rfl (fun t ht _ => ⟨_, rfl, (Or.inr ⟨(by omega), rfl⟩), ht⟩) (fun _ h => absurd h List.not_mem_nil) dX2_isPicked_25
    · skip
      refine lv_iconst (v := nI 1) hx hb dX2_isPicked_20 (by decide) ?_
      refine lv_goto (tgt := 25) hx hb dX2_isPicked_21 (by decide) ?_
      exact W.zret (ty := .boolean) hx hb hr rfl (fun t ht _ => ⟨_, rfl, (Or.inl ⟨(by omega), rfl⟩), ht⟩) (fun _ h => absurd h List.not_mem_nil) dX2_isPicked_25

set_option maxHeartbeats 4000000 in
set_option maxRecDepth 100000 in
theorem k_X2_dullAfterRound (l : Launch) (D : va_G) (y : Nat → ClassId) (q : Nat → Nat) (S : Nat → Nat → Nat) (f : Nat) (ho : pm_okb (S 4 f) = true) (hf : f < 30) : Met l yX2_dullAfterRound wsX2_dullAfterRound ({ frames := 0, cells := 0, slots := 0, locals := 0 } : Room) (pm_ro D (pm_ty y) [.ref (q 0), .int (nI f)] (pm_shS y q S)) (vp_Si (fun r : Int32 => r = nI (pm_dl S f))) 0 0 (fun _ => False) := by
  refine Met.ofW (cc := cX2_dullAfterRound) (maxL := 3) (ret := (some .int)) (by decide) rfl ?_
  intro p e s m args below meth c s₁ B hml hpre
  obtain ⟨rfl, hP, hK⟩ := hpre
  have hx := B.exec
  have hb := B.bytes
  have hr := B.returns
  have hts := atoms_spec (ws := wsX2_dullAfterRound) B.pre
  have hown : s.vm.findClass RX2 = some m.cls := findClass_of_methodNamed B.named
  have hlocks := B.notSynchronized
  have hin2 : ∀ w ∈ u_ws RX2 TX2 15, w ∈ wsX2_dullAfterRound := fun w h => List.mem_cons_of_mem _ (List.mem_append_right _ h)
  have hP : va_P D vwCl (pm_shS y q S) s.heap := hP
  have hl := lv_entry ([.ref (q 0), .int (nI f)]) (n := 3) (Nat.le_of_ble_eq_true rfl)
  rw [lg_entry_eq]
  generalize (lg_sl ([.ref (q 0), .int (nI f)]) ++ List.replicate (3 - (lg_sl ([.ref (q 0), .int (nI f)])).length) Slot.unset).toArray = ls at hl ⊢
  have hl : lv_has ls 3 [(0, .ref (q 0)), (1, .int (nI f))] := hl
  refine lv_aload_n hx hb dX2_dullAfterRound_0 rfl (lv_at hl 0 rfl) ?_
  refine va_get (D := D) (ci := 2) (v := .ref (q 3)) (C := RX2) (T := TX2) (N := 15) hx hb hts hin2 hown hK hP 0 rfl rfl 2 (by decide) (hts (.fieldLink RX2 18 "ProofMarks$Sheet" "ticks" "[I") (List.mem_of_getElem? (i := 1) rfl)) (fun _ h9 => h9) rfl dX2_dullAfterRound_1 ?_
  refine lv_iload_n hx hb dX2_dullAfterRound_4 rfl (lv_at hl 1 rfl) ?_
  refine kx_iald (v := nI (pm_tk ((S 4) f))) hx hb hK hP 3 0 rfl rfl (by omega) (by decide) rfl dX2_dullAfterRound_5 ?_
  have := pm_tk8 ((S 4) f)
  refine kx_if_ne (tgt := 22) hx hb (by omega) dX2_dullAfterRound_6 (by decide) (fun c1 => ?_) (fun c1 => ?_)
  · skip
    refine lv_iconst (v := nI 0) hx hb dX2_dullAfterRound_22 (by decide) ?_
    refine lv_istore_n (lv' := [(2, .int (nI 0)), (0, .ref (q 0)), (1, .int (nI f))]) hx hb dX2_dullAfterRound_23 rfl hl (by decide) rfl (fun ls hl => ?_)
    refine lv_iload_n hx hb dX2_dullAfterRound_24 rfl (lv_at hl 0 rfl) ?_
    refine lv_if_eq (tgt := 39) hx hb dX2_dullAfterRound_25 (by decide) (fun _ => ?_) (fun c2 => (c2 (by decide)).elim)
    refine lv_iconst (v := nI 0) hx hb dX2_dullAfterRound_39 (by decide) ?_
    exact W.iret hx hb hr (fun t ht _ => ⟨_, rfl, (by have hz := pm_zero ho; first | exact congrArg nI (pm_dl_1 (by omega)).symm | exact congrArg nI (pm_dl_0 (by omega)).symm), ht⟩) (fun _ h => absurd h List.not_mem_nil) dX2_dullAfterRound_40
  · skip
    refine lv_aload_n hx hb dX2_dullAfterRound_9 rfl (lv_at hl 0 rfl) ?_
    refine va_get (D := D) (ci := 2) (v := .ref (q 4)) (C := RX2) (T := TX2) (N := 15) hx hb hts hin2 hown hK hP 0 rfl rfl 3 (by decide) (hts (.fieldLink RX2 21 "ProofMarks$Sheet" "crosses" "[I") (List.mem_of_getElem? (i := 2) rfl)) (fun _ h9 => h9) rfl dX2_dullAfterRound_10 ?_
    refine lv_iload_n hx hb dX2_dullAfterRound_13 rfl (lv_at hl 1 rfl) ?_
    refine kx_iald (v := nI (pm_ck ((S 4) f))) hx hb hK hP 4 0 rfl rfl (by omega) (by decide) rfl dX2_dullAfterRound_14 ?_
    have := pm_ck8 ((S 4) f)
    refine kx_if_ne (tgt := 22) hx hb (by omega) dX2_dullAfterRound_15 (by decide) (fun c3 => ?_) (fun c3 => ?_)
    · skip
      refine lv_iconst (v := nI 0) hx hb dX2_dullAfterRound_22 (by decide) ?_
      refine lv_istore_n (lv' := [(2, .int (nI 0)), (0, .ref (q 0)), (1, .int (nI f))]) hx hb dX2_dullAfterRound_23 rfl hl (by decide) rfl (fun ls hl => ?_)
      refine lv_iload_n hx hb dX2_dullAfterRound_24 rfl (lv_at hl 0 rfl) ?_
      refine lv_if_eq (tgt := 39) hx hb dX2_dullAfterRound_25 (by decide) (fun _ => ?_) (fun c4 => (c4 (by decide)).elim)
      refine lv_iconst (v := nI 0) hx hb dX2_dullAfterRound_39 (by decide) ?_
      exact W.iret hx hb hr (fun t ht _ => ⟨_, rfl, (by have hz := pm_zero ho; first | exact congrArg nI (pm_dl_1 (by omega)).symm | exact congrArg nI (pm_dl_0 (by omega)).symm), ht⟩) (fun _ h => absurd h List.not_mem_nil) dX2_dullAfterRound_40
    · skip
      refine lv_iconst (v := nI 1) hx hb dX2_dullAfterRound_18 (by decide) ?_
      refine lv_goto (tgt := 23) hx hb dX2_dullAfterRound_19 (by decide) ?_
      refine lv_istore_n (lv' := [(2, .int (nI 1)), (0, .ref (q 0)), (1, .int (nI f))]) hx hb dX2_dullAfterRound_23 rfl hl (by decide) rfl (fun ls hl => ?_)
      refine lv_iload_n hx hb dX2_dullAfterRound_24 rfl (lv_at hl 0 rfl) ?_
      refine lv_if_eq (tgt := 39) hx hb dX2_dullAfterRound_25 (by decide) (fun c5 => absurd c5 (by decide)) (fun _ => ?_)
      refine lv_aload_n hx hb dX2_dullAfterRound_28 rfl (lv_at hl 1 rfl) ?_
      refine va_get (D := D) (ci := 2) (v := .ref (q 5)) (C := RX2) (T := TX2) (N := 15) hx hb hts hin2 hown hK hP 0 rfl rfl 4 (by decide) (hts (.fieldLink RX2 24 "ProofMarks$Sheet" "dull" "[I") (List.mem_of_getElem? (i := 3) rfl)) (fun _ h9 => h9) rfl dX2_dullAfterRound_29 ?_
      refine lv_iload_n hx hb dX2_dullAfterRound_32 rfl (lv_at hl 2 rfl) ?_
      refine kx_iald (v := nI ((S 1) f)) hx hb hK hP 5 0 rfl rfl (by omega) (by decide) rfl dX2_dullAfterRound_33 ?_
      refine lv_iconst (v := nI 1) hx hb dX2_dullAfterRound_34 (by decide) ?_
      refine kx_iadd hx hb dX2_dullAfterRound_35 ?_
      refine lv_goto (tgt := 40) hx hb dX2_dullAfterRound_36 (by decide) ?_
      exact W.iret hx hb hr (fun t ht _ => ⟨_, rfl, (by have hz := pm_zero ho; first | exact congrArg nI (pm_dl_1 (by omega)).symm | exact congrArg nI (pm_dl_0 (by omega)).symm), ht⟩) (fun _ h => absurd h List.not_mem_nil) dX2_dullAfterRound_40

set_option maxHeartbeats 4000000 in
set_option maxRecDepth 100000 in
theorem k_X2_afterRound (l : Launch) (D : va_G) (y : Nat → ClassId) (q : Nat → Nat) (S : Nat → Nat → Nat) (f : Nat) (ho : pm_okb (S 4 f) = true) (hs : S 9 0 ≤ 9) (hs3 : S 9 3 ≤ 9) (hd : S 1 f ≤ 99) (hf : f < 30) : Met l yX2_afterRound wsX2_afterRound ({ frames := 2, cells := 0, slots := 0, locals := 42 } : Room) (pm_ro D (pm_ty y) [.ref (q 0), .int (nI f)] (pm_shS y q S)) (vp_Si (fun r : Int32 => r = nI (pm_aft S f))) 0 0 (fun _ => False) := by
  refine Met.ofW (cc := cX2_afterRound) (maxL := 3) (ret := (some .int)) (by decide) rfl ?_
  intro p e s m args below meth c s₁ B hml hpre
  obtain ⟨rfl, hP, hK⟩ := hpre
  have hx := B.exec
  have hb := B.bytes
  have hr := B.returns
  have hts := atoms_spec (ws := wsX2_afterRound) B.pre
  have hown : s.vm.findClass RX2 = some m.cls := findClass_of_methodNamed B.named
  have hlocks := B.notSynchronized
  have hin2 : ∀ w ∈ u_ws RX2 TX2 15, w ∈ wsX2_afterRound := fun w h => List.mem_cons_of_mem _ (List.mem_append_right _ h)
  have hP : va_P D vwCl (pm_shS y q S) s.heap := hP
  have hl := lv_entry ([.ref (q 0), .int (nI f)]) (n := 3) (Nat.le_of_ble_eq_true rfl)
  rw [lg_entry_eq]
  generalize (lg_sl ([.ref (q 0), .int (nI f)]) ++ List.replicate (3 - (lg_sl ([.ref (q 0), .int (nI f)])).length) Slot.unset).toArray = ls at hl ⊢
  have hl : lv_has ls 3 [(0, .ref (q 0)), (1, .int (nI f))] := hl
  refine lv_aload_n hx hb dX2_afterRound_0 rfl (lv_at hl 0 rfl) ?_
  refine va_get (D := D) (ci := 2) (v := .ref (q 4)) (C := RX2) (T := TX2) (N := 15) hx hb hts hin2 hown hK hP 0 rfl rfl 3 (by decide) (hts (.fieldLink RX2 21 "ProofMarks$Sheet" "crosses" "[I") (List.mem_of_getElem? (i := 1) rfl)) (fun _ h9 => h9) rfl dX2_afterRound_1 ?_
  refine lv_iload_n hx hb dX2_afterRound_4 rfl (lv_at hl 1 rfl) ?_
  refine kx_iald (v := nI (pm_ck ((S 4) f))) hx hb hK hP 4 0 rfl rfl (by omega) (by decide) rfl dX2_afterRound_5 ?_
  have := pm_ck8 ((S 4) f)
  refine vp_callSi (W.runS (As := [.int (nI (pm_ck ((S 4) f)))]) (rest := []) ⟨hx, hb, hml, hown, hts⟩ (k_J6_bitCount_0f7a4 l (pm_ck ((S 4) f)) (by omega)) (va_cwS 1 hts gX2_afterRound_J6_bitCount_0f7a4 rfl rfl rfl hd_J6_bitCount_0f7a4 ⟨Nat.le_of_ble_eq_true rfl, Nat.le_of_ble_eq_true rfl⟩) ⟨pm_no_blind, pm_no_pre⟩ rfl rfl hl.1 rfl (lv_room (Nat.le_of_ble_eq_true rfl)) dX2_afterRound_6 ⟨Nat.le_of_ble_eq_true rfl, Nat.le_of_ble_eq_true rfl⟩) (fun r1 h2 => ?_)
  obtain rfl : r1 = nI (pm_pc (pm_ck ((S 4) f))) := h2
  have := pm_pc4 (pm_ck ((S 4) f))
  refine lv_istore_n (lv' := [(2, .int (nI (pm_pc (pm_ck ((S 4) f))))), (0, .ref (q 0)), (1, .int (nI f))]) hx hb dX2_afterRound_9 rfl hl (by decide) rfl (fun ls hl => ?_)
  refine lv_iload_n hx hb dX2_afterRound_10 rfl (lv_at hl 0 rfl) ?_
  refine lv_iconst (v := nI 2) hx hb dX2_afterRound_11 (by decide) ?_
  refine kx_icmp_lt (tgt := 17) hx hb (by omega) (by decide) dX2_afterRound_12 (by decide) (fun c3 => ?_) (fun c3 => ?_)
  · skip
    refine lv_iload_n hx hb dX2_afterRound_17 rfl (lv_at hl 0 rfl) ?_
    refine lv_iconst (v := nI 1) hx hb dX2_afterRound_18 (by decide) ?_
    refine kx_icmp_ne (tgt := 24) hx hb (by omega) (by decide) dX2_afterRound_19 (by decide) (fun c4 => ?_) (fun c4 => ?_)
    · skip
      refine lv_aload_n hx hb dX2_afterRound_24 rfl (lv_at hl 1 rfl) ?_
      refine lv_aload_n hx hb dX2_afterRound_25 rfl (lv_at hl 1 rfl) ?_
      refine va_get (D := D) (ci := 2) (v := .ref (q 3)) (C := RX2) (T := TX2) (N := 15) hx hb hts hin2 hown hK hP 0 rfl rfl 2 (by decide) (hts (.fieldLink RX2 18 "ProofMarks$Sheet" "ticks" "[I") (List.mem_of_getElem? (i := 2) rfl)) (fun _ h9 => h9) rfl dX2_afterRound_26 ?_
      refine lv_iload_n hx hb dX2_afterRound_29 rfl (lv_at hl 2 rfl) ?_
      refine kx_iald (v := nI (pm_tk ((S 4) f))) hx hb hK hP 3 0 rfl rfl (by omega) (by decide) rfl dX2_afterRound_30 ?_
      have := pm_tk8 ((S 4) f)
      refine lv_aload_n hx hb dX2_afterRound_31 rfl (lv_at hl 1 rfl) ?_
      refine va_get (D := D) (ci := 2) (v := .ref (q 4)) (C := RX2) (T := TX2) (N := 15) hx hb hts hin2 hown hK hP 0 rfl rfl 3 (by decide) (hts (.fieldLink RX2 21 "ProofMarks$Sheet" "crosses" "[I") (List.mem_of_getElem? (i := 1) rfl)) (fun _ h9 => h9) rfl dX2_afterRound_32 ?_
      refine lv_iload_n hx hb dX2_afterRound_35 rfl (lv_at hl 2 rfl) ?_
      refine kx_iald (v := nI (pm_ck ((S 4) f))) hx hb hK hP 4 0 rfl rfl (by omega) (by decide) rfl dX2_afterRound_36 ?_
      have := pm_ck8 ((S 4) f)
      refine vp_callSi (W.runV (As := [.int (nI (pm_tk ((S 4) f))), .int (nI (pm_ck ((S 4) f)))]) (rest := []) ⟨hx, hb, hml, hown, hts⟩ (k_X2_isWanted l D y q S (pm_tk ((S 4) f)) (pm_ck ((S 4) f)) hs (by omega) (by omega)) (cwV 2 hts gX2_afterRound_X2_isWanted rfl rfl rfl hd_X2_isWanted ⟨Nat.le_of_ble_eq_true rfl, Nat.le_of_ble_eq_true rfl⟩) ⟨pm_ro_blind, va_recv hK hP (ci := 2) (q0 := 0) rfl rfl, pm_ro_pre hP hK⟩ rfl rfl hl.1 rfl (lv_room (Nat.le_of_ble_eq_true rfl)) dX2_afterRound_37 ⟨Nat.le_of_ble_eq_true rfl, Nat.le_of_ble_eq_true rfl⟩) (fun r5 h6 => ?_)
      rcases (show (((pm_ck ((S 4) f)) = 0 ∧ S 9 0 ≤ pm_pc (pm_tk ((S 4) f))) ∧ r5 = nI 1) ∨ (¬ ((pm_ck ((S 4) f)) = 0 ∧ S 9 0 ≤ pm_pc (pm_tk ((S 4) f))) ∧ r5 = nI 0) from h6) with ⟨hp7, rfl⟩ | ⟨hp7, rfl⟩
      · skip
        refine lv_if_eq (tgt := 45) hx hb dX2_afterRound_40 (by decide) (fun c8 => absurd c8 (by decide)) (fun _ => ?_)
        refine lv_iconst (v := nI 1) hx hb dX2_afterRound_43 (by decide) ?_
        exact W.iret hx hb hr (fun t ht _ => ⟨_, rfl, (congrArg nI (by have := pm_pc0 (pm_ck8 (S 4 f)); unfold pm_aft pm_cc pm_tc; (repeat' split) <;> omega)), ht⟩) (fun _ h => absurd h List.not_mem_nil) dX2_afterRound_44
      · skip
        refine lv_if_eq (tgt := 45) hx hb dX2_afterRound_40 (by decide) (fun _ => ?_) (fun c9 => (c9 (by decide)).elim)
        refine lv_aload_n hx hb dX2_afterRound_45 rfl (lv_at hl 1 rfl) ?_
        refine lv_iload_n hx hb dX2_afterRound_46 rfl (lv_at hl 2 rfl) ?_
        refine vp_callSi (W.runV (As := [.int (nI f)]) (rest := []) ⟨hx, hb, hml, hown, hts⟩ (k_X2_dullAfterRound l D y q S f ho (by omega)) (cwV 1 hts gX2_afterRound_X2_dullAfterRound rfl rfl rfl hd_X2_dullAfterRound ⟨Nat.le_of_ble_eq_true rfl, Nat.le_of_ble_eq_true rfl⟩) ⟨pm_ro_blind, va_recv hK hP (ci := 2) (q0 := 0) rfl rfl, pm_ro_pre hP hK⟩ rfl rfl hl.1 rfl (lv_room (Nat.le_of_ble_eq_true rfl)) dX2_afterRound_47 ⟨Nat.le_of_ble_eq_true rfl, Nat.le_of_ble_eq_true rfl⟩) (fun r10 h11 => ?_)
        obtain rfl : r10 = nI (pm_dl S f) := h11
        have := pm_dl_le S f
        refine lv_aload_n hx hb dX2_afterRound_50 rfl (lv_at hl 1 rfl) ?_
        refine va_get (D := D) (ci := 2) (v := .ref (q 1)) (C := RX2) (T := TX2) (N := 15) hx hb hts hin2 hown hK hP 0 rfl rfl 0 (by decide) (hts (.fieldLink RX2 11 "ProofMarks$Sheet" "settings" "[I") (List.mem_of_getElem? (i := 3) rfl)) (fun _ h9 => h9) rfl dX2_afterRound_51 ?_
        refine lv_iconst (v := nI 3) hx hb dX2_afterRound_54 (by decide) ?_
        refine kx_iald (v := nI ((S 9) 3)) hx hb hK hP 1 0 rfl rfl (by omega) (by decide) rfl dX2_afterRound_55 ?_
        refine kx_icmp_lt (tgt := 63) hx hb (by omega) (by omega) dX2_afterRound_56 (by decide) (fun c12 => ?_) (fun c12 => ?_)
        · skip
          refine lv_iconst (v := nI 0) hx hb dX2_afterRound_63 (by decide) ?_
          exact W.iret hx hb hr (fun t ht _ => ⟨_, rfl, (congrArg nI (by have := pm_pc0 (pm_ck8 (S 4 f)); unfold pm_aft pm_cc pm_tc; (repeat' split) <;> omega)), ht⟩) (fun _ h => absurd h List.not_mem_nil) dX2_afterRound_64
        · skip
          refine lv_iconst (v := nI 2) hx hb dX2_afterRound_59 (by decide) ?_
          refine lv_goto (tgt := 64) hx hb dX2_afterRound_60 (by decide) ?_
          exact W.iret hx hb hr (fun t ht _ => ⟨_, rfl, (congrArg nI (by have := pm_pc0 (pm_ck8 (S 4 f)); unfold pm_aft pm_cc pm_tc; (repeat' split) <;> omega)), ht⟩) (fun _ h => absurd h List.not_mem_nil) dX2_afterRound_64
    · skip
      refine lv_iconst (v := nI 0) hx hb dX2_afterRound_22 (by decide) ?_
      exact W.iret hx hb hr (fun t ht _ => ⟨_, rfl, (congrArg nI (by have := pm_pc0 (pm_ck8 (S 4 f)); unfold pm_aft pm_cc pm_tc; (repeat' split) <;> omega)), ht⟩) (fun _ h => absurd h List.not_mem_nil) dX2_afterRound_23
  · skip
    refine lv_iconst (v := nI 2) hx hb dX2_afterRound_15 (by decide) ?_
    exact W.iret hx hb hr (fun t ht _ => ⟨_, rfl, (congrArg nI (by have := pm_pc0 (pm_ck8 (S 4 f)); unfold pm_aft pm_cc pm_tc; (repeat' split) <;> omega)), ht⟩) (fun _ h => absurd h List.not_mem_nil) dX2_afterRound_16

set_option maxHeartbeats 4000000 in
set_option maxRecDepth 100000 in
theorem k_X2_framesThatAre (l : Launch) (D : va_G) (y : Nat → ClassId) (q : Nat → Nat) (S : Nat → Nat → Nat) (v : Nat) (hI : pm_Inv S) (hv : v < 4) : Met l yX2_framesThatAre wsX2_framesThatAre ({ frames := 0, cells := 0, slots := 0, locals := 0 } : Room) (pm_ro D (pm_ty y) [.ref (q 0), .int (nI v)] (pm_shS y q S)) (vp_Si (fun r : Int32 => r = nI (pm_hm S v 30))) 0 0 (fun _ => False) := by
  refine Met.ofW (cc := cX2_framesThatAre) (maxL := 4) (ret := (some .int)) (by decide) rfl ?_
  intro p e s m args below meth c s₁ B hml hpre
  obtain ⟨rfl, hP, hK⟩ := hpre
  have hx := B.exec
  have hb := B.bytes
  have hr := B.returns
  have hts := atoms_spec (ws := wsX2_framesThatAre) B.pre
  have hown : s.vm.findClass RX2 = some m.cls := findClass_of_methodNamed B.named
  have hlocks := B.notSynchronized
  have hin2 : ∀ w ∈ u_ws RX2 TX2 15, w ∈ wsX2_framesThatAre := fun w h => List.mem_cons_of_mem _ (List.mem_append_right _ h)
  have hP : va_P D vwCl (pm_shS y q S) s.heap := hP
  have hl := lv_entry ([.ref (q 0), .int (nI v)]) (n := 4) (Nat.le_of_ble_eq_true rfl)
  rw [lg_entry_eq]
  generalize (lg_sl ([.ref (q 0), .int (nI v)]) ++ List.replicate (4 - (lg_sl ([.ref (q 0), .int (nI v)])).length) Slot.unset).toArray = ls at hl ⊢
  have hl : lv_has ls 4 [(0, .ref (q 0)), (1, .int (nI v))] := hl
  refine lv_iconst (v := nI 0) hx hb dX2_framesThatAre_0 (by decide) ?_
  refine lv_istore_n (lv' := [(2, .int (nI 0)), (0, .ref (q 0)), (1, .int (nI v))]) hx hb dX2_framesThatAre_1 rfl hl (by decide) rfl (fun ls hl => ?_)
  refine lv_iconst (v := nI 0) hx hb dX2_framesThatAre_2 (by decide) ?_
  refine lv_istore_n (lv' := [(3, .int (nI 0)), (2, .int (nI 0)), (0, .ref (q 0)), (1, .int (nI v))]) hx hb dX2_framesThatAre_3 rfl hl (by decide) rfl (fun ls hl => ?_)
  have LOOP4 : ∀ (n k : Nat) (ls : Array Slot), k ≤ 30 → 30 - k < n → lv_has ls 4 [(0, .ref (q 0)), (1, .int (nI v)), (2, .int (nI (pm_num (fun k => decide (S 0 k = v)) k))), (3, .int (nI k))] → W p l e (headSpec wsX2_framesThatAre ({ frames := 0, cells := 0, slots := 0, locals := 0 } : Room)).room s m ([.ref (q 0), .int (nI v)] : List Value).toArray below meth c s.heap [] 0 0 (MQ below (vp_Si (fun r : Int32 => r = nI (pm_hm S v 30))) ([.ref (q 0), .int (nI v)] : List Value).toArray s 0 0 (fun _ => False)) (F0 m 4 ls []) := by
    intro n
    induction n with
    | zero => intro k _ hi hn; omega
    | succ n ih1 =>
      intro k ls hi_k hn_k hl 
      refine lv_iload_n hx hb dX2_framesThatAre_4 rfl (lv_at hl 3 rfl) ?_
      refine lv_bipush (v := nI 30) hx hb dX2_framesThatAre_5 (by decide) ?_
      refine kx_icmp_ge (tgt := 34) hx hb (by omega) (by decide) dX2_framesThatAre_7 (by decide) (fun c2 => ?_) (fun c2 => ?_)
      · skip
        refine lv_iload_n hx hb dX2_framesThatAre_34 rfl (lv_at hl 2 rfl) ?_
        exact W.iret hx hb hr (fun t ht _ => ⟨_, rfl, (by rw [show k = 30 by omega]; rfl), ht⟩) (fun _ h => absurd h List.not_mem_nil) dX2_framesThatAre_35
      · skip
        refine lv_iload_n hx hb dX2_framesThatAre_10 rfl (lv_at hl 2 rfl) ?_
        refine lv_aload_n hx hb dX2_framesThatAre_11 rfl (lv_at hl 0 rfl) ?_
        refine va_get (D := D) (ci := 2) (v := .ref (q 2)) (C := RX2) (T := TX2) (N := 15) hx hb hts hin2 hown hK hP 0 rfl rfl 1 (by decide) (hts (.fieldLink RX2 15 "ProofMarks$Sheet" "how" "[I") (List.mem_of_getElem? (i := 1) rfl)) (fun _ h9 => h9) rfl dX2_framesThatAre_12 ?_
        refine lv_iload_n hx hb dX2_framesThatAre_15 rfl (lv_at hl 3 rfl) ?_
        refine kx_iald (v := nI ((S 0) k)) hx hb hK hP 2 0 rfl rfl (by omega) (by decide) rfl dX2_framesThatAre_16 ?_
        have := hI.how k (by omega)
        refine lv_iload_n hx hb dX2_framesThatAre_17 rfl (lv_at hl 1 rfl) ?_
        refine kx_icmp_ne (tgt := 25) hx hb (by omega) (by omega) dX2_framesThatAre_18 (by decide) (fun c3 => ?_) (fun c3 => ?_)
        · skip
          refine lv_iconst (v := nI 0) hx hb dX2_framesThatAre_25 (by decide) ?_
          refine kx_iadd hx hb dX2_framesThatAre_26 ?_
          refine lv_istore_n (lv' := [(2, .int (nI ((pm_num (fun k => decide (S 0 k = v)) k) + 0))), (0, .ref (q 0)), (1, .int (nI v)), (3, .int (nI k))]) hx hb dX2_framesThatAre_27 rfl hl (by decide) rfl (fun ls hl => ?_)
          refine kx_iinc (a := k) (lv' := [(3, .int (nI (k + 1))), (2, .int (nI ((pm_num (fun k => decide (S 0 k = v)) k) + 0))), (0, .ref (q 0)), (1, .int (nI v))]) hx hb dX2_framesThatAre_28 hl (k := 3) rfl (by decide) rfl (fun ls hl => ?_)
          refine lv_goto (tgt := 4) hx hb dX2_framesThatAre_31 (by decide) ?_
          have q4 : (nI (pm_num (fun k => decide (S 0 k = v)) (k + 1)) : Int32) = nI ((pm_num (fun k => decide (S 0 k = v)) k) + 0) := (congrArg nI (by first | exact pm_num_p (decide_eq_true (by omega)) | exact pm_num_n (decide_eq_false (by omega))))
          exact ih1 (k + 1) ls (by omega) (by omega) (by rw [q4]; exact lv_sub hl [2, 3, 1, 0] rfl) 
        · skip
          refine lv_iconst (v := nI 1) hx hb dX2_framesThatAre_21 (by decide) ?_
          refine lv_goto (tgt := 26) hx hb dX2_framesThatAre_22 (by decide) ?_
          refine kx_iadd hx hb dX2_framesThatAre_26 ?_
          refine lv_istore_n (lv' := [(2, .int (nI ((pm_num (fun k => decide (S 0 k = v)) k) + 1))), (0, .ref (q 0)), (1, .int (nI v)), (3, .int (nI k))]) hx hb dX2_framesThatAre_27 rfl hl (by decide) rfl (fun ls hl => ?_)
          refine kx_iinc (a := k) (lv' := [(3, .int (nI (k + 1))), (2, .int (nI ((pm_num (fun k => decide (S 0 k = v)) k) + 1))), (0, .ref (q 0)), (1, .int (nI v))]) hx hb dX2_framesThatAre_28 hl (k := 3) rfl (by decide) rfl (fun ls hl => ?_)
          refine lv_goto (tgt := 4) hx hb dX2_framesThatAre_31 (by decide) ?_
          have q5 : (nI (pm_num (fun k => decide (S 0 k = v)) (k + 1)) : Int32) = nI ((pm_num (fun k => decide (S 0 k = v)) k) + 1) := (congrArg nI (by first | exact pm_num_p (decide_eq_true (by omega)) | exact pm_num_n (decide_eq_false (by omega))))
          exact ih1 (k + 1) ls (by omega) (by omega) (by rw [q5]; exact lv_sub hl [2, 3, 1, 0] rfl) 
  exact LOOP4 (30 + 1) 0 ls (by omega) (by omega) (lv_sub hl [2, 3, 1, 0] rfl) 

set_option maxHeartbeats 4000000 in
set_option maxRecDepth 100000 in
theorem k_X2_framesThatBecome (l : Launch) (D : va_G) (y : Nat → ClassId) (q : Nat → Nat) (S : Nat → Nat → Nat) (v : Nat) (hI : pm_Inv S) (hv : v < 4) : Met l yX2_framesThatBecome wsX2_framesThatBecome ({ frames := 3, cells := 0, slots := 0, locals := 64 } : Room) (pm_ro D (pm_ty y) [.ref (q 0), .int (nI v)] (pm_shS y q S)) (vp_Si (fun r : Int32 => r = nI (pm_bc S v 30))) 0 0 (fun _ => False) := by
  refine Met.ofW (cc := cX2_framesThatBecome) (maxL := 4) (ret := (some .int)) (by decide) rfl ?_
  intro p e s m args below meth c s₁ B hml hpre
  obtain ⟨rfl, hP, hK⟩ := hpre
  have hx := B.exec
  have hb := B.bytes
  have hr := B.returns
  have hts := atoms_spec (ws := wsX2_framesThatBecome) B.pre
  have hown : s.vm.findClass RX2 = some m.cls := findClass_of_methodNamed B.named
  have hlocks := B.notSynchronized
  have hin2 : ∀ w ∈ u_ws RX2 TX2 15, w ∈ wsX2_framesThatBecome := fun w h => List.mem_cons_of_mem _ (List.mem_append_right _ h)
  have hP : va_P D vwCl (pm_shS y q S) s.heap := hP
  have hl := lv_entry ([.ref (q 0), .int (nI v)]) (n := 4) (Nat.le_of_ble_eq_true rfl)
  rw [lg_entry_eq]
  generalize (lg_sl ([.ref (q 0), .int (nI v)]) ++ List.replicate (4 - (lg_sl ([.ref (q 0), .int (nI v)])).length) Slot.unset).toArray = ls at hl ⊢
  have hl : lv_has ls 4 [(0, .ref (q 0)), (1, .int (nI v))] := hl
  refine lv_iconst (v := nI 0) hx hb dX2_framesThatBecome_0 (by decide) ?_
  refine lv_istore_n (lv' := [(2, .int (nI 0)), (0, .ref (q 0)), (1, .int (nI v))]) hx hb dX2_framesThatBecome_1 rfl hl (by decide) rfl (fun ls hl => ?_)
  refine lv_iconst (v := nI 0) hx hb dX2_framesThatBecome_2 (by decide) ?_
  refine lv_istore_n (lv' := [(3, .int (nI 0)), (2, .int (nI 0)), (0, .ref (q 0)), (1, .int (nI v))]) hx hb dX2_framesThatBecome_3 rfl hl (by decide) rfl (fun ls hl => ?_)
  have LOOP4 : ∀ (n k : Nat) (ls : Array Slot), k ≤ 30 → 30 - k < n → lv_has ls 4 [(0, .ref (q 0)), (1, .int (nI v)), (2, .int (nI (pm_num (fun k => decide (S 0 k = 0 ∧ pm_aft S k = v)) k))), (3, .int (nI k))] → W p l e (headSpec wsX2_framesThatBecome ({ frames := 3, cells := 0, slots := 0, locals := 64 } : Room)).room s m ([.ref (q 0), .int (nI v)] : List Value).toArray below meth c s.heap [] 0 0 (MQ below (vp_Si (fun r : Int32 => r = nI (pm_bc S v 30))) ([.ref (q 0), .int (nI v)] : List Value).toArray s 0 0 (fun _ => False)) (F0 m 4 ls []) := by
    intro n
    induction n with
    | zero => intro k _ hi hn; omega
    | succ n ih1 =>
      intro k ls hi_k hn_k hl 
      refine lv_iload_n hx hb dX2_framesThatBecome_4 rfl (lv_at hl 3 rfl) ?_
      refine lv_bipush (v := nI 30) hx hb dX2_framesThatBecome_5 (by decide) ?_
      refine kx_icmp_ge (tgt := 42) hx hb (by omega) (by decide) dX2_framesThatBecome_7 (by decide) (fun c2 => ?_) (fun c2 => ?_)
      · skip
        refine lv_iload_n hx hb dX2_framesThatBecome_42 rfl (lv_at hl 2 rfl) ?_
        exact W.iret hx hb hr (fun t ht _ => ⟨_, rfl, (by rw [show k = 30 by omega]; rfl), ht⟩) (fun _ h => absurd h List.not_mem_nil) dX2_framesThatBecome_43
      · skip
        refine lv_iload_n hx hb dX2_framesThatBecome_10 rfl (lv_at hl 2 rfl) ?_
        refine lv_aload_n hx hb dX2_framesThatBecome_11 rfl (lv_at hl 0 rfl) ?_
        refine va_get (D := D) (ci := 2) (v := .ref (q 2)) (C := RX2) (T := TX2) (N := 15) hx hb hts hin2 hown hK hP 0 rfl rfl 1 (by decide) (hts (.fieldLink RX2 15 "ProofMarks$Sheet" "how" "[I") (List.mem_of_getElem? (i := 1) rfl)) (fun _ h9 => h9) rfl dX2_framesThatBecome_12 ?_
        refine lv_iload_n hx hb dX2_framesThatBecome_15 rfl (lv_at hl 3 rfl) ?_
        refine kx_iald (v := nI ((S 0) k)) hx hb hK hP 2 0 rfl rfl (by omega) (by decide) rfl dX2_framesThatBecome_16 ?_
        have := hI.how k (by omega)
        refine kx_if_ne (tgt := 33) hx hb (by omega) dX2_framesThatBecome_17 (by decide) (fun c3 => ?_) (fun c3 => ?_)
        · skip
          refine lv_iconst (v := nI 0) hx hb dX2_framesThatBecome_33 (by decide) ?_
          refine kx_iadd hx hb dX2_framesThatBecome_34 ?_
          refine lv_istore_n (lv' := [(2, .int (nI ((pm_num (fun k => decide (S 0 k = 0 ∧ pm_aft S k = v)) k) + 0))), (0, .ref (q 0)), (1, .int (nI v)), (3, .int (nI k))]) hx hb dX2_framesThatBecome_35 rfl hl (by decide) rfl (fun ls hl => ?_)
          refine kx_iinc (a := k) (lv' := [(3, .int (nI (k + 1))), (2, .int (nI ((pm_num (fun k => decide (S 0 k = 0 ∧ pm_aft S k = v)) k) + 0))), (0, .ref (q 0)), (1, .int (nI v))]) hx hb dX2_framesThatBecome_36 hl (k := 3) rfl (by decide) rfl (fun ls hl => ?_)
          refine lv_goto (tgt := 4) hx hb dX2_framesThatBecome_39 (by decide) ?_
          have q4 : (nI (pm_num (fun k => decide (S 0 k = 0 ∧ pm_aft S k = v)) (k + 1)) : Int32) = nI ((pm_num (fun k => decide (S 0 k = 0 ∧ pm_aft S k = v)) k) + 0) := (congrArg nI (by first | exact pm_num_p (decide_eq_true (by omega)) | exact pm_num_n (decide_eq_false (by omega))))
          exact ih1 (k + 1) ls (by omega) (by omega) (by rw [q4]; exact lv_sub hl [2, 3, 1, 0] rfl) 
        · skip
          refine lv_aload_n hx hb dX2_framesThatBecome_20 rfl (lv_at hl 0 rfl) ?_
          refine lv_iload_n hx hb dX2_framesThatBecome_21 rfl (lv_at hl 3 rfl) ?_
          refine vp_callSi (W.runV (As := [.int (nI k)]) (rest := [.int (nI (pm_num (fun k => decide (S 0 k = 0 ∧ pm_aft S k = v)) k))]) ⟨hx, hb, hml, hown, hts⟩ (k_X2_afterRound l D y q S k (hI.okm k (by omega)) (hI.set9 0 (by decide)) (hI.set9 3 (by decide)) (Nat.le_trans (hI.dull k (by omega)) hI.rnd) (by omega)) (cwV 1 hts gX2_framesThatBecome_X2_afterRound rfl rfl rfl hd_X2_afterRound ⟨Nat.le_of_ble_eq_true rfl, Nat.le_of_ble_eq_true rfl⟩) ⟨pm_ro_blind, va_recv hK hP (ci := 2) (q0 := 0) rfl rfl, pm_ro_pre hP hK⟩ rfl rfl hl.1 rfl (lv_room (Nat.le_of_ble_eq_true rfl)) dX2_framesThatBecome_22 ⟨Nat.le_of_ble_eq_true rfl, Nat.le_of_ble_eq_true rfl⟩) (fun r5 h6 => ?_)
          obtain rfl : r5 = nI (pm_aft S k) := h6
          have := pm_aft3 S k
          refine lv_iload_n hx hb dX2_framesThatBecome_25 rfl (lv_at hl 1 rfl) ?_
          refine kx_icmp_ne (tgt := 33) hx hb (by omega) (by omega) dX2_framesThatBecome_26 (by decide) (fun c7 => ?_) (fun c7 => ?_)
          · skip
            refine lv_iconst (v := nI 0) hx hb dX2_framesThatBecome_33 (by decide) ?_
            refine kx_iadd hx hb dX2_framesThatBecome_34 ?_
            refine lv_istore_n (lv' := [(2, .int (nI ((pm_num (fun k => decide (S 0 k = 0 ∧ pm_aft S k = v)) k) + 0))), (0, .ref (q 0)), (1, .int (nI v)), (3, .int (nI k))]) hx hb dX2_framesThatBecome_35 rfl hl (by decide) rfl (fun ls hl => ?_)
            refine kx_iinc (a := k) (lv' := [(3, .int (nI (k + 1))), (2, .int (nI ((pm_num (fun k => decide (S 0 k = 0 ∧ pm_aft S k = v)) k) + 0))), (0, .ref (q 0)), (1, .int (nI v))]) hx hb dX2_framesThatBecome_36 hl (k := 3) rfl (by decide) rfl (fun ls hl => ?_)
            refine lv_goto (tgt := 4) hx hb dX2_framesThatBecome_39 (by decide) ?_
            have q8 : (nI (pm_num (fun k => decide (S 0 k = 0 ∧ pm_aft S k = v)) (k + 1)) : Int32) = nI ((pm_num (fun k => decide (S 0 k = 0 ∧ pm_aft S k = v)) k) + 0) := (congrArg nI (by first | exact pm_num_p (decide_eq_true (by omega)) | exact pm_num_n (decide_eq_false (by omega))))
            exact ih1 (k + 1) ls (by omega) (by omega) (by rw [q8]; exact lv_sub hl [2, 3, 1, 0] rfl) 
          · skip
            refine lv_iconst (v := nI 1) hx hb dX2_framesThatBecome_29 (by decide) ?_
            refine lv_goto (tgt := 34) hx hb dX2_framesThatBecome_30 (by decide) ?_
            refine kx_iadd hx hb dX2_framesThatBecome_34 ?_
            refine lv_istore_n (lv' := [(2, .int (nI ((pm_num (fun k => decide (S 0 k = 0 ∧ pm_aft S k = v)) k) + 1))), (0, .ref (q 0)), (1, .int (nI v)), (3, .int (nI k))]) hx hb dX2_framesThatBecome_35 rfl hl (by decide) rfl (fun ls hl => ?_)
            refine kx_iinc (a := k) (lv' := [(3, .int (nI (k + 1))), (2, .int (nI ((pm_num (fun k => decide (S 0 k = 0 ∧ pm_aft S k = v)) k) + 1))), (0, .ref (q 0)), (1, .int (nI v))]) hx hb dX2_framesThatBecome_36 hl (k := 3) rfl (by decide) rfl (fun ls hl => ?_)
            refine lv_goto (tgt := 4) hx hb dX2_framesThatBecome_39 (by decide) ?_
            have q9 : (nI (pm_num (fun k => decide (S 0 k = 0 ∧ pm_aft S k = v)) (k + 1)) : Int32) = nI ((pm_num (fun k => decide (S 0 k = 0 ∧ pm_aft S k = v)) k) + 1) := (congrArg nI (by first | exact pm_num_p (decide_eq_true (by omega)) | exact pm_num_n (decide_eq_false (by omega))))
            exact ih1 (k + 1) ls (by omega) (by omega) (by rw [q9]; exact lv_sub hl [2, 3, 1, 0] rfl) 
  exact LOOP4 (30 + 1) 0 ls (by omega) (by omega) (lv_sub hl [2, 3, 1, 0] rfl) 

theorem pm_lmx (S : Nat → Nat → Nat) (k : Nat) (hk : k < 30) {x : Nat} (hx : x = pm_rl S (k + 1)) : (if nI (pm_lm S k) < nI x then nI x else nI (pm_lm S k)) = nI (pm_lm S (k + 1)) := by
  subst hx
  have := pm_lm_le S k
  have := pm_rl_le S (k + 1)
  rw [pm_lm]
  by_cases h : pm_lm S k < pm_rl S (k + 1)
  · rw [if_pos h, if_pos (nI_lt h (by omega))]
  · rw [if_neg h, if_neg (nI_nlt (by omega) (by omega))]
set_option maxHeartbeats 4000000 in
set_option maxRecDepth 100000 in
theorem k_X2_longestRow (l : Launch) (D : va_G) (y : Nat → ClassId) (q : Nat → Nat) (S : Nat → Nat → Nat) (hI : pm_Inv S) : Met l yX2_longestRow wsX2_longestRow ({ frames := 1, cells := 0, slots := 0, locals := 21 } : Room) (pm_ro D (pm_ty y) [.ref (q 0)] (pm_shS y q S)) (vp_Si (fun r : Int32 => r = nI (pm_lm S 30))) 0 0 (fun _ => False) := by
  refine Met.ofW (cc := cX2_longestRow) (maxL := 4) (ret := (some .int)) (by decide) rfl ?_
  intro p e s m args below meth c s₁ B hml hpre
  obtain ⟨rfl, hP, hK⟩ := hpre
  have hx := B.exec
  have hb := B.bytes
  have hr := B.returns
  have hts := atoms_spec (ws := wsX2_longestRow) B.pre
  have hown : s.vm.findClass RX2 = some m.cls := findClass_of_methodNamed B.named
  have hlocks := B.notSynchronized
  have hin2 : ∀ w ∈ u_ws RX2 TX2 15, w ∈ wsX2_longestRow := fun w h => List.mem_cons_of_mem _ (List.mem_append_right _ h)
  have hP : va_P D vwCl (pm_shS y q S) s.heap := hP
  have hl := lv_entry ([.ref (q 0)]) (n := 4) (Nat.le_of_ble_eq_true rfl)
  rw [lg_entry_eq]
  generalize (lg_sl ([.ref (q 0)]) ++ List.replicate (4 - (lg_sl ([.ref (q 0)])).length) Slot.unset).toArray = ls at hl ⊢
  have hl : lv_has ls 4 [(0, .ref (q 0))] := hl
  refine lv_iconst (v := nI 0) hx hb dX2_longestRow_0 (by decide) ?_
  refine lv_istore_n (lv' := [(1, .int (nI 0)), (0, .ref (q 0))]) hx hb dX2_longestRow_1 rfl hl (by decide) rfl (fun ls hl => ?_)
  refine lv_iconst (v := nI 0) hx hb dX2_longestRow_2 (by decide) ?_
  refine lv_istore_n (lv' := [(2, .int (nI 0)), (1, .int (nI 0)), (0, .ref (q 0))]) hx hb dX2_longestRow_3 rfl hl (by decide) rfl (fun ls hl => ?_)
  refine lv_iconst (v := nI 0) hx hb dX2_longestRow_4 (by decide) ?_
  refine lv_istore_n (lv' := [(3, .int (nI 0)), (2, .int (nI 0)), (1, .int (nI 0)), (0, .ref (q 0))]) hx hb dX2_longestRow_5 rfl hl (by decide) rfl (fun ls hl => ?_)
  have LOOP6 : ∀ (n k : Nat) (ls : Array Slot), k ≤ 30 → 30 - k < n → lv_has ls 4 [(0, .ref (q 0)), (1, .int (nI (pm_lm S k))), (2, .int (nI (pm_rl S k))), (3, .int (nI k))] → W p l e (headSpec wsX2_longestRow ({ frames := 1, cells := 0, slots := 0, locals := 21 } : Room)).room s m ([.ref (q 0)] : List Value).toArray below meth c s.heap [] 0 0 (MQ below (vp_Si (fun r : Int32 => r = nI (pm_lm S 30))) ([.ref (q 0)] : List Value).toArray s 0 0 (fun _ => False)) (F0 m 6 ls []) := by
    intro n
    induction n with
    | zero => intro k _ hi hn; omega
    | succ n ih1 =>
      intro k ls hi_k hn_k hl 
      have := pm_rl_le S k
      have := pm_lm_le S k
      refine lv_iload_n hx hb dX2_longestRow_6 rfl (lv_at hl 3 rfl) ?_
      refine lv_bipush (v := nI 30) hx hb dX2_longestRow_7 (by decide) ?_
      refine kx_icmp_ge (tgt := 49) hx hb (by omega) (by decide) dX2_longestRow_9 (by decide) (fun c2 => ?_) (fun c2 => ?_)
      · skip
        refine lv_iload_n hx hb dX2_longestRow_49 rfl (lv_at hl 1 rfl) ?_
        exact W.iret hx hb hr (fun t ht _ => ⟨_, rfl, (by rw [show k = 30 by omega]), ht⟩) (fun _ h => absurd h List.not_mem_nil) dX2_longestRow_50
      · skip
        refine lv_iload_n hx hb dX2_longestRow_12 rfl (lv_at hl 3 rfl) ?_
        refine lv_bipush (v := nI 6) hx hb dX2_longestRow_13 (by decide) ?_
        refine kx_irem hx hb (by omega) (by omega) (by omega) dX2_longestRow_15 ?_
        refine kx_if_ne (tgt := 21) hx hb (by omega) dX2_longestRow_16 (by decide) (fun c3 => ?_) (fun c3 => ?_)
        · skip
          refine lv_aload_n hx hb dX2_longestRow_21 rfl (lv_at hl 0 rfl) ?_
          refine lv_iload_n hx hb dX2_longestRow_22 rfl (lv_at hl 3 rfl) ?_
          refine vp_callSi (W.runV (As := [.int (nI k)]) (rest := []) ⟨hx, hb, hml, hown, hts⟩ (k_X2_isPicked l D y q S k hI (by omega)) (cwV 1 hts gX2_longestRow_X2_isPicked rfl rfl rfl hd_X2_isPicked ⟨Nat.le_of_ble_eq_true rfl, Nat.le_of_ble_eq_true rfl⟩) ⟨pm_ro_blind, va_recv hK hP (ci := 2) (q0 := 0) rfl rfl, pm_ro_pre hP hK⟩ rfl rfl hl.1 rfl (lv_room (Nat.le_of_ble_eq_true rfl)) dX2_longestRow_23 ⟨Nat.le_of_ble_eq_true rfl, Nat.le_of_ble_eq_true rfl⟩) (fun r4 h5 => ?_)
          rcases (show ((S 0 k = 1 ∨ S 0 k = 3) ∧ r4 = nI 1) ∨ (¬ (S 0 k = 1 ∨ S 0 k = 3) ∧ r4 = nI 0) from h5) with ⟨hp6, rfl⟩ | ⟨hp6, rfl⟩
          · skip
            refine lv_if_eq (tgt := 35) hx hb dX2_longestRow_26 (by decide) (fun c7 => absurd c7 (by decide)) (fun _ => ?_)
            refine lv_iload_n hx hb dX2_longestRow_29 rfl (lv_at hl 2 rfl) ?_
            refine lv_iconst (v := nI 1) hx hb dX2_longestRow_30 (by decide) ?_
            refine kx_iadd hx hb dX2_longestRow_31 ?_
            refine lv_goto (tgt := 36) hx hb dX2_longestRow_32 (by decide) ?_
            refine lv_istore_n (lv' := [(2, .int (nI ((pm_rl S k) + 1))), (0, .ref (q 0)), (1, .int (nI (pm_lm S k))), (3, .int (nI k))]) hx hb dX2_longestRow_36 rfl hl (by decide) rfl (fun ls hl => ?_)
            refine lv_iload_n hx hb dX2_longestRow_37 rfl (lv_at hl 2 rfl) ?_
            refine lv_iload_n hx hb dX2_longestRow_38 rfl (lv_at hl 0 rfl) ?_
            refine va_mmax hx hb (by rw [hml]; exact hl.1.symm) hown (hts (.methodLink RX2 138 Lib.Math.max.name) (List.mem_of_getElem? (i := 1) rfl)) (hts (.static Lib.Math.max.name) (List.mem_of_getElem? (i := 2) rfl)) (hts (.initialized "java/lang/Math") (List.mem_of_getElem? (i := 3) rfl)) (hts (.code Lib.Math.max.name Lib.Math.max.code 2 (some .int)) (List.mem_of_getElem? (i := 4) rfl)) (Nat.le_of_ble_eq_true rfl) (Nat.le_of_ble_eq_true rfl) (Nat.le_of_ble_eq_true rfl) (Nat.le_of_ble_eq_true rfl) dX2_longestRow_39 ?_
            refine lv_topi (fun x8 e9 => ?_)
            obtain rfl : x8 = nI (pm_lm S (k + 1)) := e9.trans (pm_lmx S k (by omega) (by rw [pm_rl]; (repeat' split) <;> first | omega | (have hz := pm_pk_i.mp ‹_›; omega) | (exfalso; exact absurd (pm_pk_i.mpr (by assumption)) ‹_›)))
            refine lv_istore_n (lv' := [(1, .int (nI (pm_lm S (k + 1)))), (2, .int (nI ((pm_rl S k) + 1))), (0, .ref (q 0)), (3, .int (nI k))]) hx hb dX2_longestRow_42 rfl hl (by decide) rfl (fun ls hl => ?_)
            refine kx_iinc (a := k) (lv' := [(3, .int (nI (k + 1))), (1, .int (nI (pm_lm S (k + 1)))), (2, .int (nI ((pm_rl S k) + 1))), (0, .ref (q 0))]) hx hb dX2_longestRow_43 hl (k := 3) rfl (by decide) rfl (fun ls hl => ?_)
            refine lv_goto (tgt := 6) hx hb dX2_longestRow_46 (by decide) ?_
            have q10 : (nI (pm_rl S (k + 1)) : Int32) = nI ((pm_rl S k) + 1) := (congrArg nI (by rw [pm_rl]; (repeat' split) <;> first | omega | (have hz := pm_pk_i.mp ‹_›; omega) | (exfalso; exact absurd (pm_pk_i.mpr (by assumption)) ‹_›)))
            exact ih1 (k + 1) ls (by omega) (by omega) (by rw [q10]; exact lv_sub hl [3, 1, 2, 0] rfl) 
          · skip
            refine lv_if_eq (tgt := 35) hx hb dX2_longestRow_26 (by decide) (fun _ => ?_) (fun c11 => (c11 (by decide)).elim)
            refine lv_iconst (v := nI 0) hx hb dX2_longestRow_35 (by decide) ?_
            refine lv_istore_n (lv' := [(2, .int (nI 0)), (0, .ref (q 0)), (1, .int (nI (pm_lm S k))), (3, .int (nI k))]) hx hb dX2_longestRow_36 rfl hl (by decide) rfl (fun ls hl => ?_)
            refine lv_iload_n hx hb dX2_longestRow_37 rfl (lv_at hl 2 rfl) ?_
            refine lv_iload_n hx hb dX2_longestRow_38 rfl (lv_at hl 0 rfl) ?_
            refine va_mmax hx hb (by rw [hml]; exact hl.1.symm) hown (hts (.methodLink RX2 138 Lib.Math.max.name) (List.mem_of_getElem? (i := 1) rfl)) (hts (.static Lib.Math.max.name) (List.mem_of_getElem? (i := 2) rfl)) (hts (.initialized "java/lang/Math") (List.mem_of_getElem? (i := 3) rfl)) (hts (.code Lib.Math.max.name Lib.Math.max.code 2 (some .int)) (List.mem_of_getElem? (i := 4) rfl)) (Nat.le_of_ble_eq_true rfl) (Nat.le_of_ble_eq_true rfl) (Nat.le_of_ble_eq_true rfl) (Nat.le_of_ble_eq_true rfl) dX2_longestRow_39 ?_
            refine lv_topi (fun x12 e13 => ?_)
            obtain rfl : x12 = nI (pm_lm S (k + 1)) := e13.trans (pm_lmx S k (by omega) (by rw [pm_rl]; (repeat' split) <;> first | omega | (have hz := pm_pk_i.mp ‹_›; omega) | (exfalso; exact absurd (pm_pk_i.mpr (by assumption)) ‹_›)))
            refine lv_istore_n (lv' := [(1, .int (nI (pm_lm S (k + 1)))), (2, .int (nI 0)), (0, .ref (q 0)), (3, .int (nI k))]) hx hb dX2_longestRow_42 rfl hl (by decide) rfl (fun ls hl => ?_)
            refine kx_iinc (a := k) (lv' := [(3, .int (nI (k + 1))), (1, .int (nI (pm_lm S (k + 1)))), (2, .int (nI 0)), (0, .ref (q 0))]) hx hb dX2_longestRow_43 hl (k := 3) rfl (by decide) rfl (fun ls hl => ?_)
            refine lv_goto (tgt := 6) hx hb dX2_longestRow_46 (by decide) ?_
            have q14 : (nI (pm_rl S (k + 1)) : Int32) = nI 0 := (congrArg nI (by rw [pm_rl]; (repeat' split) <;> first | omega | (have hz := pm_pk_i.mp ‹_›; omega) | (exfalso; exact absurd (pm_pk_i.mpr (by assumption)) ‹_›)))
            exact ih1 (k + 1) ls (by omega) (by omega) (by rw [q14]; exact lv_sub hl [3, 1, 2, 0] rfl) 
        · skip
          refine lv_iconst (v := nI 0) hx hb dX2_longestRow_19 (by decide) ?_
          refine lv_istore_n (lv' := [(2, .int (nI 0)), (0, .ref (q 0)), (1, .int (nI (pm_lm S k))), (3, .int (nI k))]) hx hb dX2_longestRow_20 rfl hl (by decide) rfl (fun ls hl => ?_)
          refine lv_aload_n hx hb dX2_longestRow_21 rfl (lv_at hl 1 rfl) ?_
          refine lv_iload_n hx hb dX2_longestRow_22 rfl (lv_at hl 3 rfl) ?_
          refine vp_callSi (W.runV (As := [.int (nI k)]) (rest := []) ⟨hx, hb, hml, hown, hts⟩ (k_X2_isPicked l D y q S k hI (by omega)) (cwV 1 hts gX2_longestRow_X2_isPicked rfl rfl rfl hd_X2_isPicked ⟨Nat.le_of_ble_eq_true rfl, Nat.le_of_ble_eq_true rfl⟩) ⟨pm_ro_blind, va_recv hK hP (ci := 2) (q0 := 0) rfl rfl, pm_ro_pre hP hK⟩ rfl rfl hl.1 rfl (lv_room (Nat.le_of_ble_eq_true rfl)) dX2_longestRow_23 ⟨Nat.le_of_ble_eq_true rfl, Nat.le_of_ble_eq_true rfl⟩) (fun r15 h16 => ?_)
          rcases (show ((S 0 k = 1 ∨ S 0 k = 3) ∧ r15 = nI 1) ∨ (¬ (S 0 k = 1 ∨ S 0 k = 3) ∧ r15 = nI 0) from h16) with ⟨hp17, rfl⟩ | ⟨hp17, rfl⟩
          · skip
            refine lv_if_eq (tgt := 35) hx hb dX2_longestRow_26 (by decide) (fun c18 => absurd c18 (by decide)) (fun _ => ?_)
            refine lv_iload_n hx hb dX2_longestRow_29 rfl (lv_at hl 0 rfl) ?_
            refine lv_iconst (v := nI 1) hx hb dX2_longestRow_30 (by decide) ?_
            refine kx_iadd hx hb dX2_longestRow_31 ?_
            refine lv_topi (fun x19 e20 => ?_)
            obtain rfl : x19 = nI 1 := e20.trans (rfl)
            refine lv_goto (tgt := 36) hx hb dX2_longestRow_32 (by decide) ?_
            refine lv_istore_n (lv' := [(2, .int (nI 1)), (0, .ref (q 0)), (1, .int (nI (pm_lm S k))), (3, .int (nI k))]) hx hb dX2_longestRow_36 rfl hl (by decide) rfl (fun ls hl => ?_)
            refine lv_iload_n hx hb dX2_longestRow_37 rfl (lv_at hl 2 rfl) ?_
            refine lv_iload_n hx hb dX2_longestRow_38 rfl (lv_at hl 0 rfl) ?_
            refine va_mmax hx hb (by rw [hml]; exact hl.1.symm) hown (hts (.methodLink RX2 138 Lib.Math.max.name) (List.mem_of_getElem? (i := 1) rfl)) (hts (.static Lib.Math.max.name) (List.mem_of_getElem? (i := 2) rfl)) (hts (.initialized "java/lang/Math") (List.mem_of_getElem? (i := 3) rfl)) (hts (.code Lib.Math.max.name Lib.Math.max.code 2 (some .int)) (List.mem_of_getElem? (i := 4) rfl)) (Nat.le_of_ble_eq_true rfl) (Nat.le_of_ble_eq_true rfl) (Nat.le_of_ble_eq_true rfl) (Nat.le_of_ble_eq_true rfl) dX2_longestRow_39 ?_
            refine lv_topi (fun x21 e22 => ?_)
            obtain rfl : x21 = nI (pm_lm S (k + 1)) := e22.trans (pm_lmx S k (by omega) (by rw [pm_rl]; (repeat' split) <;> first | omega | (have hz := pm_pk_i.mp ‹_›; omega) | (exfalso; exact absurd (pm_pk_i.mpr (by assumption)) ‹_›)))
            refine lv_istore_n (lv' := [(1, .int (nI (pm_lm S (k + 1)))), (2, .int (nI 1)), (0, .ref (q 0)), (3, .int (nI k))]) hx hb dX2_longestRow_42 rfl hl (by decide) rfl (fun ls hl => ?_)
            refine kx_iinc (a := k) (lv' := [(3, .int (nI (k + 1))), (1, .int (nI (pm_lm S (k + 1)))), (2, .int (nI 1)), (0, .ref (q 0))]) hx hb dX2_longestRow_43 hl (k := 3) rfl (by decide) rfl (fun ls hl => ?_)
            refine lv_goto (tgt := 6) hx hb dX2_longestRow_46 (by decide) ?_
            have q23 : (nI (pm_rl S (k + 1)) : Int32) = nI 1 := (congrArg nI (by rw [pm_rl]; (repeat' split) <;> first | omega | (have hz := pm_pk_i.mp ‹_›; omega) | (exfalso; exact absurd (pm_pk_i.mpr (by assumption)) ‹_›)))
            exact ih1 (k + 1) ls (by omega) (by omega) (by rw [q23]; exact lv_sub hl [3, 1, 2, 0] rfl) 
          · skip
            refine lv_if_eq (tgt := 35) hx hb dX2_longestRow_26 (by decide) (fun _ => ?_) (fun c24 => (c24 (by decide)).elim)
            refine lv_iconst (v := nI 0) hx hb dX2_longestRow_35 (by decide) ?_
            refine lv_istore_n (lv' := [(2, .int (nI 0)), (0, .ref (q 0)), (1, .int (nI (pm_lm S k))), (3, .int (nI k))]) hx hb dX2_longestRow_36 rfl hl (by decide) rfl (fun ls hl => ?_)
            refine lv_iload_n hx hb dX2_longestRow_37 rfl (lv_at hl 2 rfl) ?_
            refine lv_iload_n hx hb dX2_longestRow_38 rfl (lv_at hl 0 rfl) ?_
            refine va_mmax hx hb (by rw [hml]; exact hl.1.symm) hown (hts (.methodLink RX2 138 Lib.Math.max.name) (List.mem_of_getElem? (i := 1) rfl)) (hts (.static Lib.Math.max.name) (List.mem_of_getElem? (i := 2) rfl)) (hts (.initialized "java/lang/Math") (List.mem_of_getElem? (i := 3) rfl)) (hts (.code Lib.Math.max.name Lib.Math.max.code 2 (some .int)) (List.mem_of_getElem? (i := 4) rfl)) (Nat.le_of_ble_eq_true rfl) (Nat.le_of_ble_eq_true rfl) (Nat.le_of_ble_eq_true rfl) (Nat.le_of_ble_eq_true rfl) dX2_longestRow_39 ?_
            refine lv_topi (fun x25 e26 => ?_)
            obtain rfl : x25 = nI (pm_lm S (k + 1)) := e26.trans (pm_lmx S k (by omega) (by rw [pm_rl]; (repeat' split) <;> first | omega | (have hz := pm_pk_i.mp ‹_›; omega) | (exfalso; exact absurd (pm_pk_i.mpr (by assumption)) ‹_›)))
            refine lv_istore_n (lv' := [(1, .int (nI (pm_lm S (k + 1)))), (2, .int (nI 0)), (0, .ref (q 0)), (3, .int (nI k))]) hx hb dX2_longestRow_42 rfl hl (by decide) rfl (fun ls hl => ?_)
            refine kx_iinc (a := k) (lv' := [(3, .int (nI (k + 1))), (1, .int (nI (pm_lm S (k + 1)))), (2, .int (nI 0)), (0, .ref (q 0))]) hx hb dX2_longestRow_43 hl (k := 3) rfl (by decide) rfl (fun ls hl => ?_)
            refine lv_goto (tgt := 6) hx hb dX2_longestRow_46 (by decide) ?_
            have q27 : (nI (pm_rl S (k + 1)) : Int32) = nI 0 := (congrArg nI (by rw [pm_rl]; (repeat' split) <;> first | omega | (have hz := pm_pk_i.mp ‹_›; omega) | (exfalso; exact absurd (pm_pk_i.mpr (by assumption)) ‹_›)))
            exact ih1 (k + 1) ls (by omega) (by omega) (by rw [q27]; exact lv_sub hl [3, 1, 2, 0] rfl) 
  exact LOOP6 (30 + 1) 0 ls (by omega) (by omega) (lv_sub hl [3, 2, 1, 0] rfl) 

