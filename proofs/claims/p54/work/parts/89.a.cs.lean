section CSW
/-! p54: what the law carries of the class -/
def CS (cy : Nat → ClassId) (ad τ : List Nat) (x0 : Nat) (w : va_W) (B : Int) : Prop := ∃ (Y : CY) (σ : SG), x0 = yX Y ∧ w = cwL cy ad σ ∧ VL cy ad τ Y σ ∧ SI Y σ B
variable {cy : Nat → ClassId} {ad τ : List Nat} {x0 q0 : Nat} {w w1 : va_W} {B B2 : Int} {D : va_G} {A : Nat → Prop} {σr : SG} {H : Heap} {a b : Nat × va_E} {M : List (Nat × Nat × Nat)}
theorem CS_tw (h : CS cy ad τ x0 w B) : vi_tw vK cy (fun _ => True) ad τ w := by
  obtain ⟨Y, σ, -, rfl, hV, -⟩ := h
  exact hV.1.1
theorem CS_up (h : CS cy ad τ x0 w B) (hB : B ≤ B2) : CS cy ad τ x0 w B2 := by
  obtain ⟨Y, σ, h1, h2, h3, h4⟩ := h
  exact ⟨Y, σ, h1, h2, h3, SI_up h4 hB⟩
theorem CS_f (h : CS cy ad τ x0 w B) (hr1 : ad[q0]? = some x0) : ∃ (vs : List Value) (fr0 : Int32), w[q0]? = some (x0, .inr (14, vs)) ∧ vs[7]? = some (.int fr0) ∧ 0 ≤ fr0.toInt ∧ fr0.toInt * 100000 ≤ B := by
  obtain ⟨Y, σ, rfl, rfl, hV, hI⟩ := h
  refine ⟨_, sgI σ (yX Y) 7, (cwL_at hr1).trans (by rw [sgE_ob (ci := 14) hV.2.1.1 (by decide)]), ?_, hI.2.2.2.2.2.1, hI.2.2.2.2.2.2⟩
  rw [sgVs_at (k := 7) (t := 0) rfl]
  rfl
theorem D_map {W W2 : va_W} (h : va_D A W) (e : W2.map (fun q => q.1) = W.map (fun q => q.1)) : va_D A W2 := by
  refine ⟨fun i j p q hi hj hpq => ?_, fun j q hj => ?_⟩
  · have gi : (W.map (fun q => q.1))[i]? = some p.1 := by rw [← e, List.getElem?_map, hi]; rfl
    have gj : (W.map (fun q => q.1))[j]? = some q.1 := by rw [← e, List.getElem?_map, hj]; rfl
    rw [List.getElem?_map] at gi gj
    obtain ⟨p0, hp0, ep⟩ := Option.map_eq_some_iff.mp gi
    obtain ⟨q1, hq1, eq⟩ := Option.map_eq_some_iff.mp gj
    exact h.1 i j p0 q1 hp0 hq1 (by rw [ep, eq]; exact hpq)
  · have gj : (W.map (fun q => q.1))[j]? = some q.1 := by rw [← e, List.getElem?_map, hj]; rfl
    rw [List.getElem?_map] at gj
    obtain ⟨q1, hq1, eq⟩ := Option.map_eq_some_iff.mp gj
    rw [← eq]
    exact h.2 j q1 hq1
/-- a world of the class, as a state's cells -/
theorem CS_conv {Y : CY} (hx : x0 = yX Y) (ht1 : vi_tw vK cy (fun _ => True) ad τ w1) (hV : VL cy ad τ Y (wS ad τ w1)) (hI : SI Y (wS ad τ w1) B) (hO : lwO D σr ([a] ++ b :: w1) H) (hD : va_D A ([a] ++ b :: w1)) : ∃ w2, CS cy ad τ x0 w2 B ∧ lwO D σr ([a] ++ b :: w2) H ∧ va_D A ([a] ++ b :: w2) ∧ vi_tw vK cy (fun _ => True) ad τ w2 := by
  have em : (cwL cy ad (wS ad τ w1)).map (fun q => q.1) = w1.map (fun q => q.1) := by rw [cwL_fst, ht1.1]
  have em2 : ([a] ++ b :: cwL cy ad (wS ad τ w1)).map (fun q => q.1) = ([a] ++ b :: w1).map (fun q => q.1) := by
    show a.1 :: b.1 :: (cwL cy ad (wS ad τ w1)).map (fun q => q.1) = a.1 :: b.1 :: w1.map (fun q => q.1)
    rw [em]
  have hO1 : va_P D vwCl ([a, b] ++ w1) H := hO.1
  have hP2 : va_P D vwCl (cwL cy ad (wS ad τ w1)) H := P_of ht1 hV.1.2.1 hO1.right
  refine ⟨cwL cy ad (wS ad τ w1), ⟨Y, _, hx, rfl, hV, hI⟩, ⟨fun i q hi => ?_, fun q hq => ?_⟩, D_map hD em2, hV.1.1⟩
  · match i, hi with
    | 0, hi => cases hi; exact hO1 0 _ rfl
    | 1, hi => cases hi; exact hO1 1 _ rfl
    | i + 2, hi => exact hP2 i q hi
  · have h1 : q.1 ∈ ([a] ++ b :: cwL cy ad (wS ad τ w1)).map (fun q => q.1) := List.mem_map.mpr ⟨q, hq, rfl⟩
    rw [em2] at h1
    obtain ⟨q1, h2, h3⟩ := List.mem_map.mp h1
    rw [← h3]
    exact hO.2 q1 h2
theorem CS_kept (h : CS cy ad τ x0 w B) (ht1 : vi_tw vK cy (fun _ => True) ad τ w1) (hk : vi_kept τ M w w1) (hM : SIM M = true) (hL : LYM M = true) (hO : lwO D σr ([a] ++ b :: w1) H) (hD : va_D A ([a] ++ b :: w1)) : ∃ w2, CS cy ad τ x0 w2 B ∧ lwO D σr ([a] ++ b :: w2) H ∧ va_D A ([a] ++ b :: w2) ∧ vi_tw vK cy (fun _ => True) ad τ w2 := by
  obtain ⟨Y, σ, h1, rfl, hV, hI⟩ := h
  have hV2 := VT_of (cy := cy) ht1 hV.1.2.1
  have hk2 := kept_of hV.1 ht1 hk
  have hVL : VL cy ad τ Y (wS ad τ w1) := ⟨hV2, LY_kept hV.2 hV.1 hV2 hk2 hL⟩
  exact CS_conv h1 ht1 hVL (SI_kept hV hVL hk2 hM hI) hO hD
/-- how a wrapper ends -/
def vw_QS (D : va_G) (cy : Nat → ClassId) (ad τ : List Nat) (oa x0 : Nat) (B : Int) (A : Nat → Prop) : Array Value → State → Outcome → State → Prop := fun _ st oc t =>
  (∃ (k : Int32) (w1 : va_W) (f1 : Nat → Int64), oc = .returned (some (.int k)) ∧ va_P D vwCl ((oa, .inl (cy 2, 1, .inr (.inl f1))) :: w1) t.heap ∧ vi_tw vK cy (fun _ => True) ad τ w1 ∧ CS cy ad τ x0 w1 B) ∧ va_F A st t
abbrev vw_MS (l : Launch) (D : va_G) (cy : Nat → ClassId) (ad τ : List Nat) (oa x0 : Nat) (f : Nat → Int64) (w : va_W) (B : Int) (sz : Nat) (y : MethodName) (WS : List Cond) (fr nc lo : Nat) (av : List Value) : Prop := Met l y WS { frames := fr, cells := nc, slots := 6 * nc, locals := lo } (va_Pc av (vi_PX D cy ((oa, .inl (cy 2, 1, .inr (.inl f))) :: w) sz)) (vw_QS D cy ad τ oa x0 B (va_A ((oa, .inl (cy 2, 1, .inr (.inl f))) :: w) sz)) nc (6 * nc) (va_A ((oa, .inl (cy 2, 1, .inr (.inl f))) :: w) sz)
/-- a straight call's end -/
def vw_QD (D : va_G) (cy : Nat → ClassId) (ad τ : List Nat) (A : Nat → Prop) (P : Option Value → va_W → Prop) : State → Outcome → State → Prop := fun st oc t =>
  (∃ (v : Option Value) (w1 : va_W), oc = .returned v ∧ va_P D vwCl w1 t.heap ∧ vi_tw vK cy (fun _ => True) ad τ w1 ∧ P v w1) ∧ va_F A st t
theorem Met_D {l : Launch} {Y : CY} {σ : SG} {sz : Nat} {y : MethodName} {WS : List Cond} {fr lo : Nat} {av : List Value} {Post : Option Value → SG → Prop} {P : Option Value → va_W → Prop} (h : clM l D cy ad τ Y σ sz y WS fr lo av Post) (hi : ∀ v σ2, VL cy ad τ Y σ2 → Post v σ2 → P v (cwL cy ad σ2)) : Met l y WS { frames := fr, cells := 0, slots := 0, locals := lo } (va_Pc av (PME D cy (cwL cy ad σ) sz)) (fun _ => vw_QD D cy ad τ (va_A (cwL cy ad σ) sz) P) 0 0 (va_A (cwL cy ad σ) sz) := by
  rw [clA_eq]
  intro p e ha hc hk s m args below hf happ hP hK
  obtain ⟨k, o, h1, h2, h3, ⟨⟨v, σ2, w1, w2, w3, w4⟩, w6⟩, L, h5, h6⟩ := h p e ha hc hk s m args below hf happ hP hK
  exact ⟨k, o, h1, h2, h3, ⟨⟨v, cwL cy ad σ2, w1, w2, w3.1.1, hi v σ2 w3 w4⟩, w6⟩, L, h5, h6⟩
theorem cs_frame (l : Launch) (hst : l.stackTraces = false) (hs : vi_s1 vSG τ) (hC : CS cy ad τ x0 w B) (hB : B ≤ 900000000) (sz : Nat) : Met l yX9_frame (Cond.code yX9_frame cX9_frame 4 (some .int) :: vWall) { frames := 6, cells := 0, slots := 0, locals := 151 } (va_Pc [.ref x0] (PME D cy w sz)) (fun _ => vw_QD D cy ad τ (va_A w sz) (fun v w1 => (∃ y : Int32, v = some (.int y)) ∧ CS cy ad τ x0 w1 (B + 108100))) 0 0 (va_A w sz) := by
  obtain ⟨Y, σ, rfl, rfl, hV, hI⟩ := hC
  exact Met_D (k_frame l D cy hst hs hV hI hB sz) (fun v σ2 h1 h2 => ⟨h2.1, Y, σ2, rfl, rfl, h1, h2.2⟩)
theorem cs_sound (l : Launch) (hC : CS cy ad τ x0 w B) (sz : Nat) : Met l yX9_isSound (Cond.code yX9_isSound cX9_isSound 1 (some .boolean) :: vWall) { frames := 3, cells := 0, slots := 0, locals := 71 } (va_Pc [.ref x0] (PME D cy w sz)) (fun _ => vw_QD D cy ad τ (va_A w sz) (fun v w1 => v = some (.int 1) ∧ CS cy ad τ x0 w1 B)) 0 0 (va_A w sz) := by
  obtain ⟨Y, σ, rfl, rfl, hV, hI⟩ := hC
  refine Met_D (k_sound l D cy hV (fun i hi h0 hs => ?_) hI.1.2.2.2.2.2.2 hI.2.2.1 (fun i k hi hk _ h1 => ((hI.2.2.2.2.1 i k hi hk).1 h1).1) sz) (fun v σ2 h1 h2 => ?_)
  · obtain ⟨h, q1, q2, q3, -⟩ := hI.1.1 i hi h0 hs
    exact ⟨_, q2, (hV.2.2.2.1 h q1).1, q3⟩
  · obtain ⟨⟨b, rfl, rfl⟩, rfl⟩ := h2
    exact ⟨rfl, Y, σ, rfl, rfl, h1, hI⟩
section
variable {p : Program} {l : Launch} {e : Env} {R : Room} {s : State} {m : MethodId} {args : Array Value} {below : List Frame} {meth : Method} {c : Code} {locs : List Loc} {cells slots : Nat} {Q : State → Prop} {cc bytes : ByteArray} {pc : Nat} {ls : Array Slot} {rest As st0 : List Value}
variable {A0 : Nat → Prop} {σ0 σ σ2 : SG} {n k N : Nat}
/-- behind a wrapper: the class's cells are other ones, the reference's stay -/
theorem lw_wkS {oa x0 : Nat} {B : Int} {f : Nat → Int64} {w wr : va_W} {nc : Nat} {a : Array Value} (hr : va_Run p l e R s m args below meth c H locs k N nc (6 * nc) (F0 m pc ls st0) rest (vw_QS D cy ad τ oa x0 B (va_A ((oa, .inl (cy 2, 1, .inr (.inl f))) :: w) H.size) a) (va_A ((oa, .inl (cy 2, 1, .inr (.inl f))) :: w) H.size)) (hB : sgB D cy s σ0 σ H locs N n) (hO : lwO D σ (wr ++ (oa, .inl (cy 2, 1, .inr (.inl f))) :: w) H) (hD : va_D (sgA σ0 s.heap.size) (wr ++ (oa, .inl (cy 2, 1, .inr (.inl f))) :: w)) (ht : vi_tw vK cy (fun _ => True) ad τ w)
    (kk : ∀ (H1 : Heap) (locs1 : List Loc) (kx : Int32) (w1 : va_W) (f1 : Nat → Int64), sgB D cy s σ0 σ H1 locs1 (N + 6 * nc) (n + 6 * nc) → lwO D σ (wr ++ (oa, .inl (cy 2, 1, .inr (.inl f1))) :: w1) H1 → va_D (sgA σ0 s.heap.size) (wr ++ (oa, .inl (cy 2, 1, .inr (.inl f1))) :: w1) → vi_tw vK cy (fun _ => True) ad τ w1 → CS cy ad τ x0 w1 B → W p l e R s m args below meth c H1 locs1 (k + nc) (N + 6 * nc) Q (F0 m (pc + 3) ls (.int kx :: rest))) : W p l e R s m args below meth c H locs k N Q (F0 m pc ls st0) := by
  intro T hT X
  obtain ⟨v', st₀, t, T', L, h0, X', hL, e1, e2, ⟨⟨kx, w1, f1, hv, q1, q2, q3⟩, hz, hk⟩, st⟩ := hr T hT X
  cases hv
  have hG := hB.1
  rw [h0] at hz hk
  have hDr := hD.right
  have hF : ∀ q, va_A ((oa, .inl (cy 2, 1, .inr (.inl f))) :: w) H.size q → sgA σ0 s.heap.size q := by
    intro q h
    rcases h with ⟨j, e, h⟩ | h
    · exact hDr.2 j (q, e) h
    · exact Or.inr (Nat.le_trans hG.2.2.1 h)
  have hk1 : ∀ q : Nat, q < H.size → ¬ va_A ((oa, .inl (cy 2, 1, .inr (.inl f))) :: w) H.size q → T'.heap[q]? = H[q]? := fun q h1 h2 => by rw [e1]; exact hk q h1 h2
  have q1' : va_P D vwCl ((oa, .inl (cy 2, 1, .inr (.inl f1))) :: w1) T'.heap := by rw [e1]; exact q1
  -- the same addresses
  have hadr : (((oa, .inl (cy 2, 1, .inr (.inl f1))) :: w1 : va_W).map (fun q => q.1)) = (((oa, .inl (cy 2, 1, .inr (.inl f))) :: w : va_W).map (fun q => q.1)) := by
    show oa :: w1.map (fun q => q.1) = oa :: w.map (fun q => q.1)
    rw [q2.1, ht.1]
  have hmem : ∀ q ∈ ((oa, .inl (cy 2, 1, .inr (.inl f1))) :: w1 : va_W), ∃ q0 ∈ ((oa, .inl (cy 2, 1, .inr (.inl f))) :: w : va_W), q0.1 = q.1 := fun q hq => by
    have h1 : q.1 ∈ (((oa, .inl (cy 2, 1, .inr (.inl f1))) :: w1 : va_W).map (fun q => q.1)) := List.mem_map.mpr ⟨q, hq, rfl⟩
    rw [hadr] at h1
    obtain ⟨q0, h2, h3⟩ := List.mem_map.mp h1
    exact ⟨q0, h2, h3⟩
  have hD1 : va_D (va_A ((oa, .inl (cy 2, 1, .inr (.inl f))) :: w) H.size) ((oa, .inl (cy 2, 1, .inr (.inl f1))) :: w1) := by
    refine ⟨fun i j p q hi hj hpq => ?_, fun j q hj => ?_⟩
    · have gi : (((oa, .inl (cy 2, 1, .inr (.inl f))) :: w : va_W).map (fun q => q.1))[i]? = some p.1 := by rw [← hadr, List.getElem?_map, hi]; rfl
      have gj : (((oa, .inl (cy 2, 1, .inr (.inl f))) :: w : va_W).map (fun q => q.1))[j]? = some q.1 := by rw [← hadr, List.getElem?_map, hj]; rfl
      rw [List.getElem?_map] at gi gj
      obtain ⟨p0, hp0, ep⟩ := Option.map_eq_some_iff.mp gi
      obtain ⟨q0, hq0, eq⟩ := Option.map_eq_some_iff.mp gj
      exact hDr.1 i j p0 q0 hp0 hq0 (by rw [ep, eq]; exact hpq)
    · obtain ⟨q0, h2, h3⟩ := hmem q (List.mem_of_getElem? hj)
      obtain ⟨i, hi⟩ := List.mem_iff_getElem?.mp h2
      exact Or.inl ⟨i, q0.2, by rw [← h3]; exact hi⟩
  obtain ⟨g1, g2⟩ := my_join hO.1 hD hk1 hF q1' hD1
  have hsg : sgP D cy σ T'.heap := by
    refine ⟨fun b hb => ?_, hG.1.2⟩
    have h1 := hG.1.1 b hb
    refine h1.kept (hk1 b h1.lt (fun z => ?_))
    rcases z with ⟨j, e9, z⟩ | z
    · exact hb (hO.2 (b, e9) (List.mem_append_right _ (List.mem_of_getElem? z)))
    · have : b < H.size := h1.lt
      omega
  have hS1 : va_S (sgA σ0 s.heap.size) s.heap T'.heap (locs ++ L) := ⟨Nat.le_trans hG.2.2.1 (by rw [e1]; exact hz), fun q h1 h2 => by rw [hk1 q (Nat.lt_of_lt_of_le h1 hG.2.2.1) (fun z => h2 (hF q z))]; exact hG.2.2.2.1 q h1 h2, fun q hq => by
      rcases List.mem_append.mp hq with h | h
      · exact hG.2.2.2.2 q h
      · exact hF _ (hL q h)⟩
  have hO2 : lwO D σ (wr ++ (oa, .inl (cy 2, 1, .inr (.inl f1))) :: w1) T'.heap := ⟨g1, fun q hq => by
    rcases List.mem_append.mp hq with h | h
    · exact hO.2 q (List.mem_append_left _ h)
    · obtain ⟨q0, h2, h3⟩ := hmem q h
      rw [← h3]
      exact hO.2 q0 (List.mem_append_right _ h2)⟩
  obtain ⟨t2, a1, b1⟩ := kk T'.heap (locs ++ L) kx w1 f1 ⟨⟨hsg, hG.2.1, hS1⟩, hB.2.1, by have := hB.2.2; omega⟩ hO2 g2 q2 q3 T' rfl X'
  exact ⟨t2, st t2 a1, b1⟩

/-- behind a straight call: the class's cells are other ones, the reference's stay -/
theorem lw_wcS {P : Option Value → va_W → Prop} {w wr : va_W} {nc : Nat} (hr : va_Run p l e R s m args below meth c H locs k N nc (6 * nc) (F0 m pc ls st0) rest (vw_QD D cy ad τ (va_A w H.size) P) (va_A w H.size)) (hB : sgB D cy s σ0 σ H locs N n) (hO : lwO D σ (wr ++ w) H) (hD : va_D (sgA σ0 s.heap.size) (wr ++ w)) (ht : vi_tw vK cy (fun _ => True) ad τ w)
    (kk : ∀ (H1 : Heap) (locs1 : List Loc) (v : Option Value) (w1 : va_W), sgB D cy s σ0 σ H1 locs1 (N + 6 * nc) (n + 6 * nc) → lwO D σ (wr ++ w1) H1 → va_D (sgA σ0 s.heap.size) (wr ++ w1) → vi_tw vK cy (fun _ => True) ad τ w1 → P v w1 → W p l e R s m args below meth c H1 locs1 (k + nc) (N + 6 * nc) Q (F0 m (pc + 3) ls (v.toList ++ rest))) : W p l e R s m args below meth c H locs k N Q (F0 m pc ls st0) := by
  intro T hT X
  obtain ⟨v', st₀, t, T', L, h0, X', hL, e1, e2, ⟨⟨v, w1, hv, q1, q2, q4⟩, hz, hk⟩, st⟩ := hr T hT X
  cases hv
  have hG := hB.1
  rw [h0] at hz hk
  have hDr := hD.right
  have hF : ∀ q, va_A w H.size q → sgA σ0 s.heap.size q := by
    intro q h
    rcases h with ⟨j, e, h⟩ | h
    · exact hDr.2 j (q, e) h
    · exact Or.inr (Nat.le_trans hG.2.2.1 h)
  have hk1 : ∀ q : Nat, q < H.size → ¬ va_A w H.size q → T'.heap[q]? = H[q]? := fun q h1 h2 => by rw [e1]; exact hk q h1 h2
  have q1' : va_P D vwCl w1 T'.heap := by rw [e1]; exact q1
  -- the same addresses
  have hadr : ((w1 : va_W).map (fun q => q.1)) = ((w : va_W).map (fun q => q.1)) := by
    rw [q2.1, ht.1]
  have hmem : ∀ q ∈ (w1 : va_W), ∃ q0 ∈ (w : va_W), q0.1 = q.1 := fun q hq => by
    have h1 : q.1 ∈ ((w1 : va_W).map (fun q => q.1)) := List.mem_map.mpr ⟨q, hq, rfl⟩
    rw [hadr] at h1
    obtain ⟨q0, h2, h3⟩ := List.mem_map.mp h1
    exact ⟨q0, h2, h3⟩
  have hD1 : va_D (va_A w H.size) w1 := by
    refine ⟨fun i j p q hi hj hpq => ?_, fun j q hj => ?_⟩
    · have gi : ((w : va_W).map (fun q => q.1))[i]? = some p.1 := by rw [← hadr, List.getElem?_map, hi]; rfl
      have gj : ((w : va_W).map (fun q => q.1))[j]? = some q.1 := by rw [← hadr, List.getElem?_map, hj]; rfl
      rw [List.getElem?_map] at gi gj
      obtain ⟨p0, hp0, ep⟩ := Option.map_eq_some_iff.mp gi
      obtain ⟨q0, hq0, eq⟩ := Option.map_eq_some_iff.mp gj
      exact hDr.1 i j p0 q0 hp0 hq0 (by rw [ep, eq]; exact hpq)
    · obtain ⟨q0, h2, h3⟩ := hmem q (List.mem_of_getElem? hj)
      obtain ⟨i, hi⟩ := List.mem_iff_getElem?.mp h2
      exact Or.inl ⟨i, q0.2, by rw [← h3]; exact hi⟩
  obtain ⟨g1, g2⟩ := my_join hO.1 hD hk1 hF q1' hD1
  have hsg : sgP D cy σ T'.heap := by
    refine ⟨fun b hb => ?_, hG.1.2⟩
    have h1 := hG.1.1 b hb
    refine h1.kept (hk1 b h1.lt (fun z => ?_))
    rcases z with ⟨j, e9, z⟩ | z
    · exact hb (hO.2 (b, e9) (List.mem_append_right _ (List.mem_of_getElem? z)))
    · have : b < H.size := h1.lt
      omega
  have hS1 : va_S (sgA σ0 s.heap.size) s.heap T'.heap (locs ++ L) := ⟨Nat.le_trans hG.2.2.1 (by rw [e1]; exact hz), fun q h1 h2 => by rw [hk1 q (Nat.lt_of_lt_of_le h1 hG.2.2.1) (fun z => h2 (hF q z))]; exact hG.2.2.2.1 q h1 h2, fun q hq => by
      rcases List.mem_append.mp hq with h | h
      · exact hG.2.2.2.2 q h
      · exact hF _ (hL q h)⟩
  have hO2 : lwO D σ (wr ++ w1) T'.heap := ⟨g1, fun q hq => by
    rcases List.mem_append.mp hq with h | h
    · exact hO.2 q (List.mem_append_left _ h)
    · obtain ⟨q0, h2, h3⟩ := hmem q h
      rw [← h3]
      exact hO.2 q0 (List.mem_append_right _ h2)⟩
  obtain ⟨t2, a1, b1⟩ := kk T'.heap (locs ++ L) v' w1 ⟨⟨hsg, hG.2.1, hS1⟩, hB.2.1, by have := hB.2.2; omega⟩ hO2 g2 q2 q4 T' rfl X'
  exact ⟨t2, st t2 a1, b1⟩

end
theorem cl_catch {p : Program} {l : Launch} {e : Env} {R : Room} {s : State} {m : MethodId} {args : Array Value} {below : List Frame} {meth : Method} {c : Code} {Q : State → Prop} {cc bytes : ByteArray} {own C : String} {nL maxL : Nat} {A0 : Nat → Prop} {locs : List Loc} {cells slots pc fr lo9 i nc k : Nat} {ls : Array Slot} {wr : va_W} {As rest st0 : List Value} {b : Nat} {y : MethodName} {WS Ts : List Cond} {ret : Option FieldType} {E : List String} {Y : CY} {σ : SG}
    (S : CallFix p m c cc nL s args Ts own) (hV : VL cy ad τ Y σ) (hI : SI Y σ B) (hM : clX l D cy ad τ Y σ H.size y WS fr lo9 nc (.ref b :: As) (fun v s2 => (∃ x : Int32, v = some (.int x)) ∧ SI Y s2 B) E) (cw : CallW R s args own C i y bytes maxL ret WS { frames := fr, cells := nc, slots := 6 * nc, locals := lo9 } nc (6 * nc) k) (hn : As.length = k) (hcell : ∃ cell : Cell, H[b]? = some cell ∧ cell.vm.isStatics = false ∧ s.vm.findClass C = some cell.cls) (hK : va_K D vwCl (tyL cy) s) (hN : NL s) (hT : vi_ST A0 s) (hP : va_P D vwCl (wr ++ cwL cy ad σ) H) (hD : va_D A0 (wr ++ cwL cy ad σ)) (hS : va_S A0 s.heap H locs) (hA : ∀ q, s.heap.size ≤ q → A0 q)
    (hsize : ls.size = nL) (hst : st0 = As.reverse ++ .ref b :: rest) (hW : rest.length ≤ 4) (hdg : decode cc pc = .ok (.invokevirtual i, 3)) (hR : cells + nc ≤ R.cells ∧ slots + 6 * nc ≤ R.slots)
    (hcat : ∀ E' ∈ E, ∃ (pre : List ExceptionTableEntry) (x : ExceptionTableEntry) (suf : List ExceptionTableEntry), c.exceptionTable.toList = pre ++ x :: suf ∧ (∀ z ∈ pre, covers z pc = false ∨ (z.catchType ≠ 0 ∧ ∃ nm : String, (Cond.classLink own z.catchType nm).before args s = true ∧ va_Nc E' nm s)) ∧ covers x pc = true ∧ x.catchType ≠ 0 ∧ (Cond.classLink own x.catchType E').before args s = true ∧ (Cond.castable E' E').before args s = true ∧
      ∀ (q : Nat) (H1 : Heap) (locs1 : List Loc) (w1 : va_W), va_P D vwCl (wr ++ w1) H1 → va_D A0 (wr ++ w1) → va_S A0 s.heap H1 locs1 → vi_tw vK cy (fun _ => True) ad τ w1 → CS cy ad τ (yX Y) w1 B → W p l e R s m args below meth c H1 locs1 (cells + nc) (slots + 6 * nc) Q (F0 m x.handlerPc ls [.ref q]))
    (kk : ∀ (H1 : Heap) (locs1 : List Loc) (w1 : va_W) (y : Int32), va_P D vwCl (wr ++ w1) H1 → va_D A0 (wr ++ w1) → va_S A0 s.heap H1 locs1 → vi_tw vK cy (fun _ => True) ad τ w1 → CS cy ad τ (yX Y) w1 B → W p l e R s m args below meth c H1 locs1 (cells + nc) (slots + 6 * nc) Q (F0 m (pc + 3) ls (.int y :: rest))) : W p l e R s m args below meth c H locs cells slots Q (F0 m pc ls st0) := by
  have hown := S.2.2.2.1
  have ht : vi_tw vK cy (fun _ => True) ad τ (cwL cy ad σ) := hV.1.1
  have hPw : va_P D vwCl (cwL cy ad σ) H := hP.right
  have hDw : va_D A0 (cwL cy ad σ) := hD.right
  have hF : ∀ q, va_A (cwL cy ad σ) H.size q → A0 q := vi_A hDw (fun q hq => hA q (Nat.le_trans hS.1 hq))
  have hw2 : ∀ (w1 : va_W) (H1 : Heap), va_P D vwCl w1 H1 → vi_tw vK cy (fun _ => True) ad τ w1 → (∀ q : Nat, q < H.size → ¬ va_A (cwL cy ad σ) H.size q → H1[q]? = H[q]?) → va_P D vwCl (wr ++ w1) H1 ∧ va_D A0 (wr ++ w1) := fun w1 H1 q1 q2 q3 => my_join hP hD q3 hF q1 (vi_D (A0 := va_A (cwL cy ad σ) H.size) ⟨hDw.1, fun k q hk => Or.inl ⟨k, q.2, hk⟩⟩ ht q2)
  intro T hT9 X
  rcases vx_runV (g := F0 m pc ls st0) S hM cw ⟨vi_px_blind, hcell, vi_px hPw hDw hK hN hT hS hA⟩ rfl hn hsize hst (lv_room (vi_room hW)) hdg hR T hT9 X with ⟨v', st₀, t, T', L, h0, X', hL, e1, e2, ⟨⟨v, σ2, hv, q1, q2, ⟨x9, q4⟩, q5⟩, hF9⟩, st⟩ | ⟨q, st₀, t, T', L, E', ce, h0, X', hL, e1, e2, ⟨hE', ⟨w1, x1, x2, x3⟩, hF9⟩, hce, hcv, hcl, st⟩
  · cases hv
    subst q4
    rw [← clA_eq] at hF9
    obtain ⟨k1, k2, k3⟩ := vx_keep h0 e1 hS (fun q _ z => hF q z) hF hL hF9
    obtain ⟨g1, g2⟩ := hw2 (cwL cy ad σ2) T'.heap (by rw [e1]; exact q1) q2.1.1 k2
    obtain ⟨t2, a1, b1⟩ := kk T'.heap (locs ++ L) _ x9 g1 g2 k3 q2.1.1 ⟨Y, σ2, rfl, rfl, q2, q5⟩ T' rfl X'
    exact ⟨t2, st t2 a1, b1⟩
  · obtain ⟨k1, k2, k3⟩ := vx_keep h0 e1 hS (fun q _ z => hF q z) hF hL hF9
    have hV2 := VT_of (cy := cy) x2 hV.1.2.1
    have hk2 := kept_of hV.1 x2 x3
    have hVL : VL cy ad τ Y (wS ad τ w1) := ⟨hV2, LY_kept hV.2 hV.1 hV2 hk2 rfl⟩
    have hCS : CS cy ad τ (yX Y) (cwL cy ad (wS ad τ w1)) B := ⟨Y, _, rfl, rfl, hVL, SI_kept hV hVL hk2 rfl hI⟩
    obtain ⟨g1, g2⟩ := hw2 (cwL cy ad (wS ad τ w1)) T'.heap (by rw [e1]; exact P_of x2 hV.1.2.1 x1) hV2.1 k2
    obtain ⟨pre, x, suf, c1, c2, c3, c4, c5, c6, c7⟩ := hcat E' hE'
    obtain ⟨t2, a1, b1⟩ := vx_catch (pc := pc) (rest := rest) hown pre x suf c1 c2 c3 c4 c5 c6 (by rw [e1]; exact hce) hcv hcl (c7 q T'.heap (locs ++ L) _ g1 g2 k3 hV2.1 hCS) T' rfl X'
    exact ⟨t2, st.trans a1, b1⟩
end CSW
