section VIA
/-! a checker of method bodies over ranges: abstract values, paths, facts -/
/-- (0,..) nothing known; (1,lo,hi) an int of a range; (2,..) null; (3,k,n) a cell of kind k, or null if n isn't 0; (4,..) long; (5,..) float; else double -/
abbrev VA : Type := Nat × Int × Int
/-- where a value came from: (0,..) unknown; (1,j,..) local j; (2,j,ci,k) field k of the cell in local j; (3,d,ci,k) field k of the only cell of kind d -/
abbrev VO : Type := Nat × Nat × Nat × Nat
abbrev VF : Type := VO × VA
/-- locals, stack, facts, how many throwing calls have been made -/
abbrev VS : Type := List VA × List (VA × VO) × List VF × Nat
/-- a kind: (0, class, _, fields), (1, array type, length, [element]) of ints, (2, array type, length, [element]) of references -/
abbrev VK : Type := Nat × Nat × Nat × List VA
def vi_ok (ad τ : List Nat) (a : VA) (v : Value) : Prop :=
  match a.1 with
  | 0 => True
  | 1 => ∃ x : Int32, v = .int x ∧ a.2.1 ≤ x.toInt ∧ x.toInt ≤ a.2.2
  | 2 => v = .null
  | 3 => (a.2.2 ≠ 0 ∧ v = .null) ∨ ∃ q b : Nat, τ[q]? = some a.2.1.toNat ∧ ad[q]? = some b ∧ v = .ref b
  | 4 => ∃ x : Int64, v = .long x
  | 5 => ∃ x : UInt32, v = .float x
  | _ => ∃ x : UInt64, v = .double x
def vi_path (τ : List Nat) (ls : Array Slot) (w : va_W) (o : VO) (v : Value) : Prop :=
  match o.1 with
  | 0 => True
  | 1 => ls[o.2.1]? = some (.val v)
  | 2 => ∃ (q a : Nat) (vs : List Value), ls[o.2.1]? = some (.val (.ref a)) ∧ w[q]? = some (a, .inr (o.2.2.1, vs)) ∧ vs[o.2.2.2]? = some v
  | 3 => ∃ (q a : Nat) (vs : List Value), τ[q]? = some o.2.1 ∧ w[q]? = some (a, .inr (o.2.2.1, vs)) ∧ vs[o.2.2.2]? = some v
  | _ => False
def vi_fact (ad τ : List Nat) (ls : Array Slot) (w : va_W) (f : VF) : Prop := ∃ v, vi_path τ ls w f.1 v ∧ vi_ok ad τ f.2 v
def vi_stk (ad τ : List Nat) (ls : Array Slot) (w : va_W) : List (VA × VO) → List Value → Prop
  | [], [] => True
  | a :: as, v :: vs => vi_ok ad τ a.1 v ∧ vi_path τ ls w a.2 v ∧ vi_stk ad τ ls w as vs
  | _, _ => False
def vi_lo (ad τ : List Nat) (loc : List VA) (ls : Array Slot) : Prop := ∀ (i : Nat) (a : VA), loc[i]? = some a → a.1 ≠ 0 → ∃ v, ls[i]? = some (.val v) ∧ vi_ok ad τ a v
/-- a cell of a kind -/
def vi_cell (ad τ : List Nat) (cy : Nat → ClassId) (k : VK) (e : va_E) : Prop :=
  match k.1 with
  | 0 => ∃ vs : List Value, e = .inr (k.2.1, vs) ∧ vs.length = k.2.2.2.length ∧ ∀ (i : Nat) (a : VA) (v : Value), k.2.2.2[i]? = some a → vs[i]? = some v → vi_ok ad τ a v
  | 1 => ∃ f : Nat → Int32, e = .inl (cy k.2.1, k.2.2.1, .inl f) ∧ ∀ (a : VA), k.2.2.2[0]? = some a → a.1 = 1 ∧ ∀ j : Nat, j < k.2.2.1 → a.2.1 ≤ (f j).toInt ∧ (f j).toInt ≤ a.2.2
  | _ => ∃ f : Nat → Option Nat, e = .inl (cy k.2.1, k.2.2.1, .inr (.inr (.inr (.inr f)))) ∧ ∀ (a : VA), k.2.2.2[0]? = some a → ∀ j : Nat, j < k.2.2.1 → vi_ok ad τ a (va_rf (f j))
/-- a world of cells of kinds -/
def vi_tw (KT : List VK) (cy : Nat → ClassId) (Z : va_W → Prop) (ad τ : List Nat) (w : va_W) : Prop :=
  (w.map (fun q => q.1)) = ad ∧ τ.length = ad.length ∧ (∀ (q d : Nat) (e : Nat × va_E), τ[q]? = some d → w[q]? = some e → ∃ k : VK, KT[d]? = some k ∧ vi_cell ad τ cy k e.2) ∧ Z w
/-- kinds that have one cell -/
def vi_sg (SG τ : List Nat) : Prop := ∀ (q q2 d : Nat), d ∈ SG → τ[q]? = some d → τ[q2]? = some d → q = q2
/-- the state of a walk -/
def vi_G (KT : List VK) (D : va_G) (cy : Nat → ClassId) (Z : va_W → Prop) (ad τ : List Nat) (nL : Nat) (al : List (Nat × Value)) (A0 : Nat → Prop) (H0 : Heap) (A : VS) (H : Heap) (locs : List Loc) (ls : Array Slot) (st : List Value) (w : va_W) : Prop :=
  va_P D vwCl w H ∧ va_D A0 w ∧ va_S A0 H0 H locs ∧ vi_tw KT cy Z ad τ w ∧ lv_has ls nL al ∧ vi_lo ad τ A.1 ls ∧ vi_stk ad τ ls w A.2.1 st ∧ ∀ f ∈ A.2.2.1, vi_fact ad τ ls w f
end VIA
