section VIWW
/-! field rows out of words, Math's rows -/
variable {p : Program} {l : Launch} {e : Env} {R : Room} {s : State} {m : MethodId} {args : Array Value} {below : List Frame} {meth : Method} {c : Code} {Q : State → Prop} {cc : ByteArray} {own ref C host : String} {T : u_T} {N index ci k nL : Nat} {Ts : List Cond}
variable {KT : List VK} {D : va_G} {cy : Nat → ClassId} {Z : va_W → Prop} {ad τ : List Nat} {A0 : Nat → Prop} {H0 : Heap}
theorem vi_FgP (hx : p.tables.exec = Jvm.exec) (hb : c.code = cc) (hts : ∀ w ∈ Ts, w.before args s = true) (hown : s.vm.findClass own = some m.cls) (hK : va_K D vwCl (tyL cy) s) (hin : ∀ w ∈ u_ws C T N, w ∈ Ts) (hc : vwCl[ci]? = some (C, T, N)) (hk : k < N) (hlink : Cond.fieldLink own index ref (T k).2.1 (T k).2.2.1 ∈ Ts) (hsame : (T k).1 = ref) : vi_Fg p l e R s m args below meth c Q cc D index ci k := by
  intro H locs cells slots w q0 a pc fs rest v ls h1 h2 h3 h4 kk
  exact va_get hx hb hts hin hown hK h1 q0 h2 hc k hk (hts _ hlink) (fun x h => by rw [← hsame]; exact h) h3 h4 kk
theorem vi_FgN (hx : p.tables.exec = Jvm.exec) (hb : c.code = cc) (hts : ∀ w ∈ Ts, w.before args s = true) (hown : s.vm.findClass own = some m.cls) (hK : va_K D vwCl (tyL cy) s) (hin : ∀ w ∈ u_ws C T N, w ∈ Ts) (hc : vwCl[ci]? = some (C, T, N)) (hk : k < N) (hN : NL s) (hlink : Cond.fieldLinkNest own index ref (T k).2.1 (T k).2.2.1 host ∈ nestL) (hsame : (T k).1 = ref) : vi_Fg p l e R s m args below meth c Q cc D index ci k := by
  intro H locs cells slots w q0 a pc fs rest v ls h1 h2 h3 h4 kk
  exact va_getN hx hb hts hin hown hK h1 q0 h2 hc k hk (va_Nw.use rfl (hN.1 _ hlink)) (fun x h => by rw [← hsame]; exact h) h3 h4 kk
/-- what a field of a type may be given -/
def vi_tyb (ty : FieldType) (b : VA) : Bool :=
  match ty with
  | .int => b.1 == 1
  | .char => (b.1 == 1) && decide (0 ≤ b.2.1) && decide (b.2.2 ≤ 65535)
  | .boolean => (b.1 == 1) && decide (0 ≤ b.2.1) && decide (b.2.2 ≤ 1)
  | .object _ => (b.1 == 2) || (b.1 == 3)
  | .array _ => (b.1 == 2) || (b.1 == 3)
  | _ => false
theorem vi_tyb_ok {ty : FieldType} {b : VA} {v : Value} (h : vi_tyb ty b = true) (hv : vi_ok ad τ b v) : narrow ty v = v ∧ fits ty v = true := by
  cases ty <;> first | (simp only [vi_tyb] at h; cases h; done) | skip
  case int =>
    obtain ⟨x, rfl, -⟩ := vi_i (by simpa [vi_tyb] using h) hv
    exact ⟨rfl, rfl⟩
  case char =>
    simp only [vi_tyb, Bool.and_eq_true, beq_iff_eq, decide_eq_true_eq] at h
    obtain ⟨x, rfl, x1, x2⟩ := vi_i h.1.1 hv
    obtain ⟨j, hj, e1, e2⟩ := vi_ofNat (x := x) (Int.le_trans h.1.2 x1)
    have hj2 : j < 65536 := by have := Int.le_trans x2 h.2; omega
    rw [e1]
    exact pk_charN hj2
  case boolean =>
    simp only [vi_tyb, Bool.and_eq_true, beq_iff_eq, decide_eq_true_eq] at h
    obtain ⟨x, rfl, x1, x2⟩ := vi_i h.1.1 hv
    obtain ⟨j, hj, e1, e2⟩ := vi_ofNat (x := x) (Int.le_trans h.1.2 x1)
    have : j = 0 ∨ j = 1 := by have := Int.le_trans x2 h.2; omega
    rcases this with rfl | rfl <;> (rw [e1]; exact ⟨rfl, rfl⟩)
  case object n =>
    rcases vi_r (by simpa [vi_tyb] using h) hv with rfl | ⟨b, rfl⟩ <;> exact ⟨rfl, rfl⟩
  case array t =>
    rcases vi_r (by simpa [vi_tyb] using h) hv with rfl | ⟨b, rfl⟩ <;> exact ⟨rfl, rfl⟩
theorem vi_FpP {ty0 : Nat → FieldType} {v : Value} (hx : p.tables.exec = Jvm.exec) (hb : c.code = cc) (hts : ∀ w ∈ Ts, w.before args s = true) (hown : s.vm.findClass own = some m.cls) (hK : va_K D vwCl (tyL cy) s) (hin : ∀ w ∈ u_ws C T N, w ∈ Ts) (hc : vwCl[ci]? = some (C, T, N)) (hk : k < N) (hty : ∀ k, k < N → parseFieldDescriptor (T k).2.2.1 = some (ty0 k)) (hnm : ∀ a, a < N → ∀ b, b < N → a ≠ b → (T a).2.1 ≠ (T b).2.1) (hfin : (T k).2.2.2 = false) (hlink : Cond.fieldLink own index ref (T k).2.1 (T k).2.2.1 ∈ Ts) (hsame : (T k).1 = ref) (hv : narrow (ty0 k) v = v ∧ fits (ty0 k) v = true) : vi_Fp p l e R s m args below meth c Q cc D A0 H0 index ci k v := by
  intro H locs cells slots w q0 a pc fs rest ls h1 h2 h3 h4 h5 h6 kk
  exact va_put hx hb hts hin ty0 hty hnm hown hK h1 h2 h3 q0 h4 hc k hk (hts _ hlink) (fun x h => by rw [← hsame]; exact h) hfin (hty k hk) hv.1 hv.2 h5 h6 kk
theorem vi_FpN {ty0 : Nat → FieldType} {v : Value} (hx : p.tables.exec = Jvm.exec) (hb : c.code = cc) (hts : ∀ w ∈ Ts, w.before args s = true) (hown : s.vm.findClass own = some m.cls) (hK : va_K D vwCl (tyL cy) s) (hin : ∀ w ∈ u_ws C T N, w ∈ Ts) (hc : vwCl[ci]? = some (C, T, N)) (hk : k < N) (hty : ∀ k, k < N → parseFieldDescriptor (T k).2.2.1 = some (ty0 k)) (hnm : ∀ a, a < N → ∀ b, b < N → a ≠ b → (T a).2.1 ≠ (T b).2.1) (hfin : (T k).2.2.2 = false) (hN : NL s) (hlink : Cond.fieldLinkNest own index ref (T k).2.1 (T k).2.2.1 host ∈ nestL) (hsame : (T k).1 = ref) (hv : narrow (ty0 k) v = v ∧ fits (ty0 k) v = true) : vi_Fp p l e R s m args below meth c Q cc D A0 H0 index ci k v := by
  intro H locs cells slots w q0 a pc fs rest ls h1 h2 h3 h4 h5 h6 kk
  exact va_putN hx hb hts hin ty0 hty hnm hown hK h1 h2 h3 q0 h4 hc k hk (va_Nw.use rfl (hN.1 _ hlink)) (fun x h => by rw [← hsame]; exact h) hfin (hty k hk) hv.1 hv.2 h5 h6 kk
/-- Math.min and Math.max, told of ranges -/
def vi_mm (mx : Bool) (a b : VA) : VCt := ([a, b], [], [([(1, (if mx then max a.2.1 b.2.1 else min a.2.1 b.2.1), (if mx then max a.2.2 b.2.2 else min a.2.2 b.2.2))], [], [], [])], [], 0)
theorem vi_crMin {a b : VA} {NC : Nat} (ha : a.1 = 1) (hb1 : b.1 = 1) (S : CallFix p m c cc nL s args Ts own) (hlink : Cond.methodLink own index Lib.Math.min.name ∈ Ts) (hstat : Cond.static Lib.Math.min.name ∈ Ts) (hini : Cond.initialized "java/lang/Math" ∈ Ts) (hcode : Cond.code Lib.Math.min.name Lib.Math.min.code 2 (some .int) ∈ Ts) (hR : NC ≤ R.cells ∧ 6 * NC ≤ R.slots) (hf : 1 ≤ R.frames) (hlo : 21 ≤ R.locals) : vi_Cr p l e R s m args below meth c Q cc KT nL D cy Z ad τ A0 H0 NC index true (vi_mm false a b) := by
  intro H locs n pc w ls av rest h1 h2 h3 h4 h5 h6 h7 h8 h9 h10 h11 kk
  obtain ⟨hx, hb, hml, hown, hts⟩ := S
  match av, h6, h7, kk with
  | [v1, v2], h6, h7, kk =>
    obtain ⟨x, rfl, x1, x2⟩ := vi_i ha (h7 0 a v1 rfl rfl)
    obtain ⟨y, rfl, y1, y2⟩ := vi_i hb1 (h7 1 b v2 rfl rfl)
    have hr := vi_room h9
    have h10 : n + 0 ≤ NC := h10
    refine va_mmin (rest := rest) hx hb (hml.trans h1.symm) hown (hts _ hlink) (hts _ hstat) (hts _ hini) (hts _ hcode) hf (by omega) (by omega) (by omega) h11 ?_
    refine kk _ (List.mem_singleton.mpr rfl) H locs w (some (.int _)) h2 h3 h4 h5 vi_kept_rf ⟨⟨_, rfl, ?_, (fun f hf => by cases hf)⟩, (fun j a2 x2 hj _ => by cases (show (none : Option VA) = some a2 from hj)), (fun f hf => by cases hf)⟩
    have hlt : y < x ↔ y.toInt < x.toInt := Int32.lt_iff_toInt_lt
    by_cases c1 : y < x
    · rw [if_pos c1]
      have := hlt.mp c1
      exact vi_ok_int (Int.le_trans (Int.min_le_right _ _) y1) (Int.le_min.mpr ⟨by omega, y2⟩)
    · rw [if_neg c1]
      have : ¬ y.toInt < x.toInt := fun z => c1 (hlt.mpr z)
      exact vi_ok_int (Int.le_trans (Int.min_le_left _ _) x1) (Int.le_min.mpr ⟨x2, by omega⟩)
theorem vi_crMax {a b : VA} {NC : Nat} (ha : a.1 = 1) (hb1 : b.1 = 1) (S : CallFix p m c cc nL s args Ts own) (hlink : Cond.methodLink own index Lib.Math.max.name ∈ Ts) (hstat : Cond.static Lib.Math.max.name ∈ Ts) (hini : Cond.initialized "java/lang/Math" ∈ Ts) (hcode : Cond.code Lib.Math.max.name Lib.Math.max.code 2 (some .int) ∈ Ts) (hR : NC ≤ R.cells ∧ 6 * NC ≤ R.slots) (hf : 1 ≤ R.frames) (hlo : 21 ≤ R.locals) : vi_Cr p l e R s m args below meth c Q cc KT nL D cy Z ad τ A0 H0 NC index true (vi_mm true a b) := by
  intro H locs n pc w ls av rest h1 h2 h3 h4 h5 h6 h7 h8 h9 h10 h11 kk
  obtain ⟨hx, hb, hml, hown, hts⟩ := S
  match av, h6, h7, kk with
  | [v1, v2], h6, h7, kk =>
    obtain ⟨x, rfl, x1, x2⟩ := vi_i ha (h7 0 a v1 rfl rfl)
    obtain ⟨y, rfl, y1, y2⟩ := vi_i hb1 (h7 1 b v2 rfl rfl)
    have hr := vi_room h9
    have h10 : n + 0 ≤ NC := h10
    refine va_mmax (rest := rest) hx hb (hml.trans h1.symm) hown (hts _ hlink) (hts _ hstat) (hts _ hini) (hts _ hcode) hf (by omega) (by omega) (by omega) h11 ?_
    refine kk _ (List.mem_singleton.mpr rfl) H locs w (some (.int _)) h2 h3 h4 h5 vi_kept_rf ⟨⟨_, rfl, ?_, (fun f hf => by cases hf)⟩, (fun j a2 x2 hj _ => by cases (show (none : Option VA) = some a2 from hj)), (fun f hf => by cases hf)⟩
    have hlt : x < y ↔ x.toInt < y.toInt := Int32.lt_iff_toInt_lt
    by_cases c1 : x < y
    · rw [if_pos c1]
      have := hlt.mp c1
      exact vi_ok_int (Int.max_le.mpr ⟨by omega, y1⟩) (Int.le_trans y2 (Int.le_max_right _ _))
    · rw [if_neg c1]
      have : ¬ x.toInt < y.toInt := fun z => c1 (hlt.mpr z)
      exact vi_ok_int (Int.max_le.mpr ⟨x1, by omega⟩) (Int.le_trans x2 (Int.le_max_left _ _))
end VIWW
