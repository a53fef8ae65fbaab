/-! ===== cells anywhere in the world ===== -/
theorem pm_D_nd {A : Nat → Prop} {w : va_W} : va_D A w ↔ ((w.map Prod.fst).Nodup ∧ ∀ z ∈ w, A z.1) := by
  constructor
  · intro h
    refine ⟨?_, fun z hz => ?_⟩
    · show List.Pairwise _ _
      rw [List.pairwise_iff_getElem]
      intro i j hi hj hij he
      rw [List.getElem_map, List.getElem_map] at he
      have := h.1 i j _ _ (List.getElem?_eq_getElem (by simpa using hi)) (List.getElem?_eq_getElem (by simpa using hj)) he
      omega
    · obtain ⟨k, hk⟩ := List.getElem?_of_mem hz
      exact h.2 k z hk
  · rintro ⟨h1, h2⟩
    refine ⟨fun i j p q hi hj e => ?_, fun k q hk => h2 q (List.mem_of_getElem? hk)⟩
    have h3 : List.Pairwise (· ≠ ·) (w.map Prod.fst) := h1
    rw [List.pairwise_iff_getElem] at h3
    obtain ⟨hil, ei⟩ := List.getElem?_eq_some_iff.mp hi
    obtain ⟨hjl, ej⟩ := List.getElem?_eq_some_iff.mp hj
    rcases Nat.lt_trichotomy i j with g | g | g
    · exact absurd (by rw [List.getElem_map, List.getElem_map, ei, ej, e]) (h3 i j (by simpa using hil) (by simpa using hjl) g)
    · exact g
    · exact absurd (by rw [List.getElem_map, List.getElem_map, ei, ej, e]) (h3 j i (by simpa using hjl) (by simpa using hil) g)
theorem pm_P_mem {D : va_G} {cl : List vw_C} {w W : va_W} {H : Heap} (hP : va_P D cl W H) (h : ∀ z ∈ w, z ∈ W) : va_P D cl w H := fun k q hk => by
  obtain ⟨i, hi⟩ := List.getElem?_of_mem (h q (List.mem_of_getElem? hk))
  exact hP i q hi
theorem pm_emb {D : va_G} {cl : List vw_C} {w w' W W' : va_W} {H H1 : Heap} (hP : va_P D cl W H) (hk : ∀ q : Nat, q < H.size → ¬ (q ∈ w.map Prod.fst) → H1[q]? = H[q]?) (hP1 : va_P D cl w' H1) (h : ∀ z ∈ W', z ∈ w' ∨ (z ∈ W ∧ ¬ z.1 ∈ w.map Prod.fst)) : va_P D cl W' H1 := fun k q hkq => by
  rcases h q (List.mem_of_getElem? hkq) with h1 | ⟨h1, h2⟩
  · obtain ⟨i, hi⟩ := List.getElem?_of_mem h1
    exact hP1 i q hi
  · obtain ⟨i, hi⟩ := List.getElem?_of_mem h1
    have hat := hP i q hi
    exact hat.kept (hk _ hat.lt h2)
theorem pm_D_sub {A : Nat → Prop} {w W : va_W} (hD : va_D A W) (h : (w.map Prod.fst).Nodup) (hm : ∀ z ∈ w, ∃ z2 ∈ W, z2.1 = z.1) : va_D A w := pm_D_nd.mpr ⟨h, fun z hz => by
  obtain ⟨z2, h1, h2⟩ := hm z hz
  rw [← h2]
  exact (pm_D_nd.mp hD).2 z2 h1⟩
/-- thirteen addresses of a sheet -/
theorem pm_sh_fst (y : Nat → ClassId) (q : Nat → Nat) (S : Nat → Nat → Nat) : (pm_shS y q S).map Prod.fst = (List.range 13).map q := rfl
theorem pm_sh_in (y : Nat → ClassId) (q : Nat → Nat) (S : Nat → Nat → Nat) {z : Nat × va_E} (h : z ∈ pm_shS y q S) : ∃ k, k < 13 ∧ z.1 = q k := by
  have h1 : z.1 ∈ (pm_shS y q S).map Prod.fst := List.mem_map_of_mem h
  rw [pm_sh_fst] at h1
  obtain ⟨k, hk, e⟩ := List.mem_map.mp h1
  exact ⟨k, List.mem_range.mp hk, e.symm⟩
/-- sheets 0 .. n - 1 of layouts b in states B -/
def pm_shs (y : Nat → ClassId) (b : Nat → Nat → Nat) (B : Nat → Nat → Nat → Nat) : Nat → va_W
  | 0 => []
  | n + 1 => pm_shs y b B n ++ pm_shS y (b n) (B n)
theorem pm_shs_in {y : Nat → ClassId} {b : Nat → Nat → Nat} {B : Nat → Nat → Nat → Nat} : ∀ {n : Nat} {z : Nat × va_E}, z ∈ pm_shs y b B n ↔ ∃ i, i < n ∧ z ∈ pm_shS y (b i) (B i)
  | 0, z => ⟨fun h => absurd h List.not_mem_nil, fun ⟨i, h, _⟩ => absurd h (Nat.not_lt_zero i)⟩
  | n + 1, z => by
    rw [pm_shs, List.mem_append, pm_shs_in (n := n)]
    constructor
    · rintro (⟨i, h1, h2⟩ | h)
      · exact ⟨i, by omega, h2⟩
      · exact ⟨n, by omega, h⟩
    · rintro ⟨i, h1, h2⟩
      by_cases g : i = n
      · subst g; exact Or.inr h2
      · exact Or.inl ⟨i, by omega, h2⟩
theorem pm_shs_fst (y : Nat → ClassId) (b : Nat → Nat → Nat) (B B2 : Nat → Nat → Nat → Nat) : ∀ n, (pm_shs y b B n).map Prod.fst = (pm_shs y b B2 n).map Prod.fst
  | 0 => rfl
  | n + 1 => by
    rw [pm_shs, pm_shs, List.map_append, List.map_append, pm_shs_fst y b B B2 n, pm_sh_fst, pm_sh_fst]
/-- the first cell of sheet i -/
theorem pm_shs_at (y : Nat → ClassId) (b : Nat → Nat → Nat) (B : Nat → Nat → Nat → Nat) {n i : Nat} (h : i < n) : ∃ k : Nat, (pm_shs y b B n)[k]? = (pm_shS y (b i) (B i))[0]? := by
  obtain ⟨z, hz⟩ : ∃ z, (pm_shS y (b i) (B i))[0]? = some z := ⟨_, rfl⟩
  obtain ⟨k, hk⟩ := List.getElem?_of_mem (pm_shs_in.mpr ⟨i, h, List.mem_of_getElem? hz⟩)
  exact ⟨k, hk.trans hz.symm⟩
/-! ===== the history ===== -/
def pm_rf (b : Nat → Nat → Nat) (pi : Nat → Nat) : Nat → Option Nat := fun i => some (b (pi i) 0)
def pm_hi (y : Nat → ClassId) (h : Nat → Nat) (b : Nat → Nat → Nat) (B : Nat → Nat → Nat → Nat) (f : Nat → Option Nat) (kn : Nat) : va_W :=
  [(h 0, .inr (0, [.ref (h 1), .int (nI kn)])), (h 1, .inl (y 3, 7, .inr (.inr (.inr (.inr f)))))] ++ pm_shs y b B 7
theorem pm_hi_sh (y : Nat → ClassId) (h : Nat → Nat) (b : Nat → Nat → Nat) (B : Nat → Nat → Nat → Nat) (f : Nat → Option Nat) (kn : Nat) {i : Nat} (hi : i < 7) : ∃ (k : Nat) (vs : List Value), (pm_hi y h b B f kn)[k]? = some (b i 0, .inr (2, vs)) := by
  obtain ⟨k, hk⟩ := pm_shs_at y b B hi
  exact ⟨k + 2, _, hk⟩
def pm_rot (pi : Nat → Nat) (i : Nat) : Nat → Nat := fun j => if j < i then pi (j + 1) else pi j
def pm_rt (pi : Nat → Nat) : Nat → Nat := fun j => if j = 6 then pi 0 else pm_rot pi 6 j
theorem pm_rot_0 (pi : Nat → Nat) : pm_rot pi 0 = pi := by
  funext j
  unfold pm_rot
  rw [if_neg (by omega)]
theorem pm_rot_s (b : Nat → Nat → Nat) (pi : Nat → Nat) (i : Nat) : va_up (pm_rf b (pm_rot pi i)) i (some (b (pi (i + 1)) 0)) = pm_rf b (pm_rot pi (i + 1)) := by
  funext j
  unfold va_up pm_rf pm_rot
  by_cases e : j = i
  · subst e
    rw [if_pos rfl, if_pos (by omega)]
  · rw [if_neg e]
    by_cases g : j < i
    · rw [if_pos g, if_pos (by omega)]
    · rw [if_neg g, if_neg (by omega)]
theorem pm_rt_s (b : Nat → Nat → Nat) (pi : Nat → Nat) : va_up (pm_rf b (pm_rot pi 6)) 6 (some (b (pi 0) 0)) = pm_rf b (pm_rt pi) := by
  funext j
  unfold va_up pm_rf pm_rt
  by_cases e : j = 6
  · rw [if_pos e, if_pos e]
  · rw [if_neg e, if_neg e]
theorem pm_rot_j (b : Nat → Nat → Nat) (pi : Nat → Nat) (i : Nat) : pm_rf b (pm_rot pi i) (i + 1) = some (b (pi (i + 1)) 0) := by
  unfold pm_rf pm_rot
  rw [if_neg (by omega)]
section PMAA
variable {p : Program} {l : Launch} {e : Env} {R : Room} {s : State} {m : MethodId} {args : Array Value} {below : List Frame} {meth : Method} {c : Code} {H : Heap} {locs : List Loc} {cells slots : Nat} {Q : State → Prop}
variable {cc : ByteArray} {pc : Nat} {ls : Array Slot} {rest : List Value} {D : va_G} {A : Nat → Prop} {a : Nat} {tys : List (ClassId × FieldType)} {ws ws' : va_W} {H0 : Heap}
theorem kx_astq (hx : p.tables.exec = Jvm.exec) (hb : c.code = cc) (hK : va_K D vwCl tys s) (hP : va_P D vwCl ws H) (hD : va_D A ws) (hS : va_S A H0 H locs) (q0 t0 : Nat) {cA : ClassId} {n v : Nat} {f g : Nat → Option Nat} (ha : ws[q0]? = some (a, .inl (cA, n, .inr (.inr (.inr (.inr f)))))) (ht : tys[t0]? = some (cA, .object RX2)) (hv : ∃ (k : Nat) (vs : List Value), ws[k]? = some (v, .inr (2, vs))) {i : Nat} (hi : i < n) (hn : n < 2 ^ 31) (hg : va_up f i (some v) = g) (hw : ws.set q0 (a, .inl (cA, n, .inr (.inr (.inr (.inr g))))) = ws') (hdg : decode cc pc = .ok (.aastore, 1))
    (kk : ∀ (H1 : Heap) (locs1 : List Loc), va_P D vwCl ws' H1 → va_D A ws' → va_S A H0 H1 locs1 → W p l e R s m args below meth c H1 locs1 cells slots Q (F0 m (pc + 1) ls rest)) : W p l e R s m args below meth c H locs cells slots Q (F0 m pc ls (.ref v :: .int (nI i) :: .ref a :: rest)) := by
  obtain ⟨k, vs, hv⟩ := hv
  exact va_astq hx hb hK hP hD hS q0 t0 k 2 ha ht hv rfl (vp_in_nI hi hn) hdg (by rw [nI_clamp (Nat.lt_trans hi hn), hg, hw]; exact kk)
end PMAA
