section LWC
/-! the law's straight calls of the class; what a turn of the law carries -/
section
variable {p : Program} {l : Launch} {e : Env} {R : Room} {s : State} {m : MethodId} {args : Array Value} {below : List Frame} {meth : Method} {c : Code} {H : Heap} {locs : List Loc} {cells slots : Nat} {Q : State → Prop} {cc bytes : ByteArray} {pc : Nat} {ls : Array Slot} {rest As st0 : List Value}
variable {D : va_G} {cy : Nat → ClassId} {A0 : Nat → Prop} {σ0 σ σ2 : SG} {n k N : Nat}
/-- another way to say how a call ends -/
theorem lw_mono {mc ms : Nat} {g : JFrame} {Qa Qb : State → Outcome → State → Prop} {free : Addr → Prop} (hr : va_Run p l e R s m args below meth c H locs cells slots mc ms g rest Qa free) (h : ∀ st oc t, Qa st oc t → Qb st oc t) : va_Run p l e R s m args below meth c H locs cells slots mc ms g rest Qb free := by
  intro T hT X
  obtain ⟨v, st₀, t, T', L, h0, X', hL, e1, e2, q, st⟩ := hr T hT X
  exact ⟨v, st₀, t, T', L, h0, X', hL, e1, e2, h _ _ _ q, st⟩
def vw_QC (D : va_G) (KT : List VK) (cy : Nat → ClassId) (ad τ : List Nat) (w0 : va_W) (M : List (Nat × Nat × Nat)) (A : Nat → Prop) (P : Option Value → va_W → Prop) : State → Outcome → State → Prop := fun st oc t =>
  (∃ (v : Option Value) (w1 : va_W), oc = .returned v ∧ va_P D vwCl w1 t.heap ∧ vi_tw KT cy (fun _ => True) ad τ w1 ∧ vi_kept τ M w0 w1 ∧ P v w1) ∧ va_F A st t
/-- behind a straight call: the class's cells are other ones, the reference's stay -/
theorem lw_wc {KT : List VK} {ad τ : List Nat} {P : Option Value → va_W → Prop} {w0 w wr : va_W} {M : List (Nat × Nat × Nat)} {nc : Nat} (hr : va_Run p l e R s m args below meth c H locs k N nc (6 * nc) (F0 m pc ls st0) rest (vw_QC D KT cy ad τ w0 M (va_A w H.size) P) (va_A w H.size)) (hB : sgB D cy s σ0 σ H locs N n) (hO : lwO D σ (wr ++ w) H) (hD : va_D (sgA σ0 s.heap.size) (wr ++ w)) (ht : vi_tw KT cy (fun _ => True) ad τ w)
    (kk : ∀ (H1 : Heap) (locs1 : List Loc) (v : Option Value) (w1 : va_W), sgB D cy s σ0 σ H1 locs1 (N + 6 * nc) (n + 6 * nc) → lwO D σ (wr ++ w1) H1 → va_D (sgA σ0 s.heap.size) (wr ++ w1) → vi_tw KT cy (fun _ => True) ad τ w1 → vi_kept τ M w0 w1 → P v w1 → W p l e R s m args below meth c H1 locs1 (k + nc) (N + 6 * nc) Q (F0 m (pc + 3) ls (v.toList ++ rest))) : W p l e R s m args below meth c H locs k N Q (F0 m pc ls st0) := by
  intro T hT X
  obtain ⟨v', st₀, t, T', L, h0, X', hL, e1, e2, ⟨⟨v, w1, hv, q1, q2, q3, q4⟩, hz, hk⟩, st⟩ := hr T hT X
  cases hv
  have hG := hB.1
  rw [h0] at hz hk
  have hDr := hD.right
  have hF : ∀ q, va_A w H.size q → sgA σ0 s.heap.size q := by
    intro q h
    rcases h with ⟨j, e, h⟩ | h
    · exact hDr.2 j (q, e) h
    · exact Or.inr (Nat.le_trans hG.2.2.1 h)
  have hk1 : ∀ q : Nat, q < H.size → ¬ va_A w H.size q → T'.heap[q]? = H[q]? := fun q h1 h2 => by rw [e1]; exact hk q h1 h2
  have q1' : va_P D vwCl w1 T'.heap := by rw [e1]; exact q1
  -- the same addresses
  have hadr : ((w1 : va_W).map (fun q => q.1)) = ((w : va_W).map (fun q => q.1)) := by
    rw [q2.1, ht.1]
  have hmem : ∀ q ∈ (w1 : va_W), ∃ q0 ∈ (w : va_W), q0.1 = q.1 := fun q hq => by
    have h1 : q.1 ∈ ((w1 : va_W).map (fun q => q.1)) := List.mem_map.mpr ⟨q, hq, rfl⟩
    rw [hadr] at h1
    obtain ⟨q0, h2, h3⟩ := List.mem_map.mp h1
    exact ⟨q0, h2, h3⟩
  have hD1 : va_D (va_A w H.size) w1 := by
    refine ⟨fun i j p q hi hj hpq => ?_, fun j q hj => ?_⟩
    · have gi : ((w : va_W).map (fun q => q.1))[i]? = some p.1 := by rw [← hadr, List.getElem?_map, hi]; rfl
      have gj : ((w : va_W).map (fun q => q.1))[j]? = some q.1 := by rw [← hadr, List.getElem?_map, hj]; rfl
      rw [List.getElem?_map] at gi gj
      obtain ⟨p0, hp0, ep⟩ := Option.map_eq_some_iff.mp gi
      obtain ⟨q0, hq0, eq⟩ := Option.map_eq_some_iff.mp gj
      exact hDr.1 i j p0 q0 hp0 hq0 (by rw [ep, eq]; exact hpq)
    · obtain ⟨q0, h2, h3⟩ := hmem q (List.mem_of_getElem? hj)
      obtain ⟨i, hi⟩ := List.mem_iff_getElem?.mp h2
      exact Or.inl ⟨i, q0.2, by rw [← h3]; exact hi⟩
  obtain ⟨g1, g2⟩ := my_join hO.1 hD hk1 hF q1' hD1
  have hsg : sgP D cy σ T'.heap := by
    refine ⟨fun b hb => ?_, hG.1.2⟩
    have h1 := hG.1.1 b hb
    refine h1.kept (hk1 b h1.lt (fun z => ?_))
    rcases z with ⟨j, e9, z⟩ | z
    · exact hb (hO.2 (b, e9) (List.mem_append_right _ (List.mem_of_getElem? z)))
    · have : b < H.size := h1.lt
      omega
  have hS1 : va_S (sgA σ0 s.heap.size) s.heap T'.heap (locs ++ L) := ⟨Nat.le_trans hG.2.2.1 (by rw [e1]; exact hz), fun q h1 h2 => by rw [hk1 q (Nat.lt_of_lt_of_le h1 hG.2.2.1) (fun z => h2 (hF q z))]; exact hG.2.2.2.1 q h1 h2, fun q hq => by
      rcases List.mem_append.mp hq with h | h
      · exact hG.2.2.2.2 q h
      · exact hF _ (hL q h)⟩
  have hO2 : lwO D σ (wr ++ w1) T'.heap := ⟨g1, fun q hq => by
    rcases List.mem_append.mp hq with h | h
    · exact hO.2 q (List.mem_append_left _ h)
    · obtain ⟨q0, h2, h3⟩ := hmem q h
      rw [← h3]
      exact hO.2 q0 (List.mem_append_right _ h2)⟩
  obtain ⟨t2, a1, b1⟩ := kk T'.heap (locs ++ L) v' w1 ⟨⟨hsg, hG.2.1, hS1⟩, hB.2.1, by have := hB.2.2; omega⟩ hO2 g2 q2 q3 q4 T' rfl X'
  exact ⟨t2, st t2 a1, b1⟩
end
/-- a field that a call leaves -/
theorem kp_fld {τ : List Nat} {w w1 : va_W} {M : List (Nat × Nat × Nat)} {q a ci k : Nat} {vs : List Value} {v : Value} (hw : w[q]? = some (a, .inr (ci, vs))) (hv : vs[k]? = some v) (hk : vi_kept τ M w w1) (hM : vi_km M (2, 0, ci, k) = true) (he : w1.map (fun q => q.1) = w.map (fun q => q.1)) (hd : ∀ (i j : Nat) (p q : Nat × va_E), w1[i]? = some p → w1[j]? = some q → p.1 = q.1 → i = j) : ∃ vs1, w1[q]? = some (a, .inr (ci, vs1)) ∧ vs1[k]? = some v := by
  have h1 : vi_path τ #[.val (.ref a)] w (2, 0, ci, k) v := ⟨q, a, vs, rfl, hw, hv⟩
  obtain ⟨q1, a1, vs1, h2, h3, h4⟩ := hk.1 _ _ _ hM h1
  have h2 : (#[.val (.ref a)] : Array Slot)[0]? = some (.val (.ref a1)) := h2
  have ea : a1 = a := by
    have h5 : (some (Slot.val (.ref a)) : Option Slot) = some (.val (.ref a1)) := h2
    injection h5 with h6
    injection h6 with h7
    injection h7 with h8
    exact h8.symm
  subst ea
  have g : (w1.map (fun q => q.1))[q]? = some a1 := by rw [he, List.getElem?_map, hw]; rfl
  rw [List.getElem?_map] at g
  obtain ⟨p0, hp0, ep⟩ := Option.map_eq_some_iff.mp g
  have e9 : q = q1 := hd q q1 p0 _ hp0 h3 ep
  subst e9
  exact ⟨vs1, h3, h4⟩
theorem kp_un {w : va_W} {q a ci : Nat} {v1 v2 : List Value} (h1 : w[q]? = some (a, .inr (ci, v1))) (h2 : w[q]? = some (a, .inr (ci, v2))) : v1 = v2 := by
  have e9 := Option.some.inj (h1.symm.trans h2)
  injection e9 with e10 e11
  injection e11 with e12
  exact (Prod.mk.inj e12).2
/-- two of the others, the other way round -/
theorem lw_swap {D : va_G} {σ : SG} {H : Heap} {A : Nat → Prop} {a b : Nat × va_E} {w : va_W} (hO : lwO D σ (a :: b :: w) H) (hD : va_D A (a :: b :: w)) : lwO D σ (b :: a :: w) H ∧ va_D A (b :: a :: w) := by
  let r : Nat → Nat := fun i => if i = 0 then 1 else if i = 1 then 0 else i
  have hr : ∀ i : Nat, (b :: a :: w)[i]? = (a :: b :: w)[r i]? := fun i => by
    match i with
    | 0 => rfl
    | 1 => rfl
    | i + 2 => rfl
  have ri : ∀ i j : Nat, r i = r j → i = j := fun i j h => by
    simp only [r] at h
    split at h <;> split at h <;> (try split at h) <;> (try split at h) <;> omega
  refine ⟨⟨fun i q hi => hO.1 (r i) q (by rw [← hr i]; exact hi), fun q hq => hO.2 q (by
    simp only [List.mem_cons] at hq ⊢
    rcases hq with h | h | h
    · exact Or.inr (Or.inl h)
    · exact Or.inl h
    · exact Or.inr (Or.inr h))⟩, fun i j p q hi hj hpq => ri i j (hD.1 (r i) (r j) p q (by rw [← hr i]; exact hi) (by rw [← hr j]; exact hj) hpq), fun i q hi => hD.2 (r i) q (by rw [← hr i]; exact hi)⟩
/-- what a turn of the law finds -/
def LI (D : va_G) (cy : Nat → ClassId) (s : State) (σ0 : SG) (eda : Nat) (ia : Nat → Nat) (ad τ : List Nat) (q0 x0 av qv : Nat) (fd : Nat → Option Nat) (a0 oa od t c0 n0 : Nat) (H : Heap) (locs : List Loc) (k N : Nat) : Prop :=
  ∃ (σ : SG) (K : KM) (g : GH) (n S hw nn : Nat) (w : va_W) (f : Nat → Int64) (fD : Nat → UInt64), sgB D cy s σ0 σ H locs N nn ∧ nn ≤ n0 + 13000 * t ∧ k ≤ c0 + 1100 * t ∧ S ≤ 200 + 100 * t ∧ Inv eda ia K g n S hw σ ∧ kA K = a0 ∧ nY g ∧ nH g ∧ lwO D σ ([(od, .inl (cy 3, 1, .inr (.inr (.inr (.inl fD)))))] ++ (oa, .inl (cy 2, 1, .inr (.inl f))) :: w) H ∧ va_D (sgA σ0 s.heap.size) ([(od, .inl (cy 3, 1, .inr (.inr (.inr (.inl fD)))))] ++ (oa, .inl (cy 2, 1, .inr (.inl f))) :: w) ∧ vi_tw vK cy (fun _ => True) ad τ w ∧ CS cy ad τ x0 w (108100 * (t : Int))
end LWC
