section VWR0
/-! the law's wrappers: what the class throws is taken -/
variable {p : Program} {l : Launch} {e : Env} {R : Room} {s : State} {m : MethodId} {args : Array Value} {below : List Frame} {meth : Method} {c : Code} {Q : State → Prop} {cc bytes : ByteArray} {own C : String}
variable {KT : List VK} {SG : List Nat} {nL maxL : Nat} {D : va_G} {cy : Nat → ClassId} {ad τ : List Nat} {A0 : Nat → Prop} {H0 H : Heap} {locs : List Loc} {cells slots : Nat}
variable {pc fr lo9 i : Nat} {ls : Array Slot} {w w1 wr : va_W} {av rest st0 : List Value} {y : MethodName} {WS Ts : List Cond} {ct : VCt} {ret : Option FieldType} {E : List String}
theorem vi_catchV {k : Nat} (S : CallFix p m c cc nL s args Ts own) (hM : vi_Mx l D cy KT SG y WS fr lo9 ct E) (cw : CallW R s args own C i y bytes maxL ret WS { frames := fr, cells := ct.2.2.2.2, slots := 6 * ct.2.2.2.2, locals := lo9 } ct.2.2.2.2 (6 * ct.2.2.2.2) k) (hk : k + 1 = ct.1.length) (hr : vi_rcv KT ct C) (hK : va_K D vwCl (tyL cy) s) (hN : NL s) (hs : vi_s1 SG τ) (hT : vi_ST A0 s) (hP : va_P D vwCl (wr ++ w) H) (hD : va_D A0 (wr ++ w)) (hS : va_S A0 s.heap H locs) (hA : ∀ q, s.heap.size ≤ q → A0 q) (ht : vi_tw KT cy (fun _ => True) ad τ w)
    (hl : av.length = ct.1.length) (hty : ∀ (j : Nat) (a : VA) (x : Value), ct.1[j]? = some a → av[j]? = some x → vi_ok ad τ a x) (hf : ∀ f ∈ ct.2.1, vi_fact ad τ (vi_av av) w f) (hsize : ls.size = nL) (hst : st0 = av.reverse ++ rest) (hW : rest.length ≤ 4) (hdg : decode cc pc = .ok (.invokevirtual i, 3)) (hR : cells + ct.2.2.2.2 ≤ R.cells ∧ slots + 6 * ct.2.2.2.2 ≤ R.slots)
    (hcat : ∀ E' ∈ E, ∃ (pre : List ExceptionTableEntry) (x : ExceptionTableEntry) (suf : List ExceptionTableEntry), c.exceptionTable.toList = pre ++ x :: suf ∧ (∀ z ∈ pre, covers z pc = false ∨ (z.catchType ≠ 0 ∧ ∃ nm : String, (Cond.classLink own z.catchType nm).before args s = true ∧ va_Nc E' nm s)) ∧ covers x pc = true ∧ x.catchType ≠ 0 ∧ (Cond.classLink own x.catchType E').before args s = true ∧ (Cond.castable E' E').before args s = true ∧
      ∀ (q : Nat) (H1 : Heap) (locs1 : List Loc) (w1 : va_W), va_P D vwCl (wr ++ w1) H1 → va_D A0 (wr ++ w1) → va_S A0 s.heap H1 locs1 → vi_tw KT cy (fun _ => True) ad τ w1 → vi_kept τ ct.2.2.2.1 w w1 → W p l e R s m args below meth c H1 locs1 (cells + ct.2.2.2.2) (slots + 6 * ct.2.2.2.2) Q (F0 m x.handlerPc ls [.ref q]))
    (kk : ∀ alt ∈ ct.2.2.1, ∀ (H1 : Heap) (locs1 : List Loc) (w1 : va_W) (v : Option Value), va_P D vwCl (wr ++ w1) H1 → va_D A0 (wr ++ w1) → va_S A0 s.heap H1 locs1 → vi_tw KT cy (fun _ => True) ad τ w1 → vi_kept τ ct.2.2.2.1 w w1 → vi_alt ad τ av w1 alt v → W p l e R s m args below meth c H1 locs1 (cells + ct.2.2.2.2) (slots + 6 * ct.2.2.2.2) Q (F0 m (pc + 3) ls (v.toList ++ rest))) : W p l e R s m args below meth c H locs cells slots Q (F0 m pc ls st0) := by
  have hown := S.2.2.2.1
  have hPw : va_P D vwCl w H := hP.right
  have hDw : va_D A0 w := hD.right
  obtain ⟨b, As, rfl, hcell⟩ := vi_rcv_ok hK hPw ht hr hl hty
  have hM2 := hM ad τ w H.size _ hs ht hl hty hf
  have hn : As.length = k := by simp only [List.length_cons] at hl; omega
  have hst2 : st0 = As.reverse ++ .ref b :: rest := by rw [hst, List.reverse_cons, List.append_assoc]; rfl
  have hF : ∀ q, va_A w H.size q → A0 q := vi_A hDw (fun q hq => hA q (Nat.le_trans hS.1 hq))
  -- a world behind the call
  have hw2 : ∀ (w1 : va_W) (H1 : Heap), va_P D vwCl w1 H1 → vi_tw KT cy (fun _ => True) ad τ w1 → (∀ q : Nat, q < H.size → ¬ va_A w H.size q → H1[q]? = H[q]?) → va_P D vwCl (wr ++ w1) H1 ∧ va_D A0 (wr ++ w1) := fun w1 H1 q1 q2 q3 => my_join hP hD q3 hF q1 (vi_D (A0 := va_A w H.size) ⟨hDw.1, fun k q hk => Or.inl ⟨k, q.2, hk⟩⟩ ht q2)
  intro T hT9 X
  rcases vx_runV (g := F0 m pc ls st0) S hM2 cw ⟨vi_px_blind, hcell, vi_px hPw hDw hK hN hT hS hA⟩ rfl hn hsize hst2 (lv_room (vi_room hW)) hdg hR T hT9 X with ⟨v', st₀, t, T', L, h0, X', hL, e1, e2, ⟨⟨v, w1, alt, halt, hv, q1, q2, q3, q4⟩, hF9⟩, st⟩ | ⟨q, st₀, t, T', L, E', ce, h0, X', hL, e1, e2, ⟨hE', ⟨w1, x1, x2, x3⟩, hF9⟩, hce, hcv, hcl, st⟩
  · cases hv
    obtain ⟨k1, k2, k3⟩ := vx_keep h0 e1 hS (fun q _ z => hF q z) hF hL hF9
    obtain ⟨g1, g2⟩ := hw2 w1 T'.heap (by rw [e1]; exact q1) q2 k2
    obtain ⟨t2, a1, b1⟩ := kk alt halt T'.heap (locs ++ L) w1 v' g1 g2 k3 q2 q3 q4 T' rfl X'
    exact ⟨t2, st t2 a1, b1⟩
  · obtain ⟨k1, k2, k3⟩ := vx_keep h0 e1 hS (fun q _ z => hF q z) hF hL hF9
    obtain ⟨g1, g2⟩ := hw2 w1 T'.heap (by rw [e1]; exact x1) x2 k2
    obtain ⟨pre, x, suf, c1, c2, c3, c4, c5, c6, c7⟩ := hcat E' hE'
    obtain ⟨t2, a1, b1⟩ := vx_catch (pc := pc) (rest := rest) hown pre x suf c1 c2 c3 c4 c5 c6 (by rw [e1]; exact hce) hcv hcl (c7 q T'.heap (locs ++ L) w1 g1 g2 k3 x2 x3) T' rfl X'
    exact ⟨t2, st.trans a1, b1⟩
/-- how a wrapper ends -/
def vw_Q (D : va_G) (KT : List VK) (cy : Nat → ClassId) (ad τ : List Nat) (oa : Nat) (w : va_W) (M : List (Nat × Nat × Nat)) (A : Nat → Prop) : Array Value → State → Outcome → State → Prop := fun _ st oc t =>
  (∃ (k : Int32) (w1 : va_W) (f1 : Nat → Int64), oc = .returned (some (.int k)) ∧ va_P D vwCl ((oa, .inl (cy 2, 1, .inr (.inl f1))) :: w1) t.heap ∧ vi_tw KT cy (fun _ => True) ad τ w1 ∧ vi_kept τ M w w1) ∧ va_F A st t
abbrev vw_M (l : Launch) (D : va_G) (cy : Nat → ClassId) (KT : List VK) (ad τ : List Nat) (oa : Nat) (f : Nat → Int64) (w : va_W) (sz : Nat) (M : List (Nat × Nat × Nat)) (y : MethodName) (WS : List Cond) (fr nc lo : Nat) (av : List Value) : Prop := Met l y WS { frames := fr, cells := nc, slots := 6 * nc, locals := lo } (va_Pc av (vi_PX D cy ((oa, .inl (cy 2, 1, .inr (.inl f))) :: w) sz)) (vw_Q D KT cy ad τ oa w M (va_A ((oa, .inl (cy 2, 1, .inr (.inl f))) :: w) sz)) nc (6 * nc) (va_A ((oa, .inl (cy 2, 1, .inr (.inl f))) :: w) sz)
theorem vi_okI {ad τ : List Nat} (x : Int32) : vi_ok ad τ (1, -2147483648, 2147483647) (.int x) := ⟨x, rfl, by have := Int32.le_toInt x; show (-2147483648 : Int) ≤ x.toInt; omega, by have := Int32.toInt_lt x; show x.toInt ≤ 2147483647; omega⟩
end VWR0
