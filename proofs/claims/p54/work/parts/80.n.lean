section VIN
variable {p : Program} {l : Launch} {e : Env} {R : Room} {s : State} {m : MethodId} {args : Array Value} {below : List Frame} {meth : Method} {c : Code} {Q : State → Prop} {cc : ByteArray} {own : String}
variable {KT : List VK} {SG : List Nat} {na nL : Nat} {al : List (Nat × Value)} {FT : List (Nat × Nat × Nat)} {FP : List (Nat × Nat × Nat × Nat)} {CT C2 : List (Nat × Int)} {D : va_G} {cy : Nat → ClassId} {Z : va_W → Prop} {ad τ : List Nat} {A0 : Nat → Prop} {H0 : Heap}
variable {lo : List VA} {st : List (VA × VO)} {fa : List VF} {n pc : Nat} {L : List (Nat × VS)} {ls : Array Slot} {w : va_W}
/-- a call's row: the callee's contract, paid -/
def vi_Cr (p : Program) (l : Launch) (e : Env) (R : Room) (s : State) (m : MethodId) (args : Array Value) (below : List Frame) (meth : Method) (c : Code) (Q : State → Prop) (cc : ByteArray) (KT : List VK) (nL : Nat) (D : va_G) (cy : Nat → ClassId) (Z : va_W → Prop) (ad τ : List Nat) (A0 : Nat → Prop) (H0 : Heap) (NC : Nat) (i : Nat) (sta : Bool) (ct : VCt) : Prop :=
  ∀ (H : Heap) (locs : List Loc) (n pc : Nat) (w : va_W) (ls : Array Slot) (av rest : List Value), ls.size = nL → va_P D vwCl w H → va_D A0 w → va_S A0 H0 H locs → vi_tw KT cy Z ad τ w → av.length = ct.1.length →
    (∀ (j : Nat) (a : VA) (x : Value), ct.1[j]? = some a → av[j]? = some x → vi_ok ad τ a x) → (∀ f ∈ ct.2.1, vi_fact ad τ (vi_av av) w f) → rest.length ≤ 4 → n + ct.2.2.2.2 ≤ NC → decode cc pc = .ok (if sta = true then .invokestatic i else .invokevirtual i, 3) →
    (∀ alt ∈ ct.2.2.1, ∀ (H1 : Heap) (locs1 : List Loc) (w1 : va_W) (v : Option Value), va_P D vwCl w1 H1 → va_D A0 w1 → va_S A0 H0 H1 locs1 → vi_tw KT cy Z ad τ w1 → vi_kept τ ct.2.2.2.1 w w1 → vi_alt ad τ av w1 alt v →
      W p l e R s m args below meth c H1 locs1 (n + ct.2.2.2.2) (6 * (n + ct.2.2.2.2)) Q (F0 m (pc + 3) ls (v.toList ++ rest))) →
    W p l e R s m args below meth c H locs n (6 * n) Q (F0 m pc ls (av.reverse ++ rest))
/-- the arguments, better known: still so -/
theorem vi_ra_ok {km : VO → Bool} {H : Heap} {locs : List Loc} {vs : List Value} {w1 : va_W} : ∀ {qs : List (VA × VO)} {as : List VA} {av : List Value} {A : VS}, vi_G KT D cy Z ad τ nL al A0 H0 A H locs ls vs w1 →
    (∀ (j : Nat) (q : VA × VO) (x : Value), qs[j]? = some q → av[j]? = some x → km q.2 = true → vi_path τ ls w1 q.2 x) → (∀ (j : Nat) (a : VA) (x : Value), as[j]? = some a → av[j]? = some x → vi_ok ad τ a x) → qs.length = av.length →
    vi_G KT D cy Z ad τ nL al A0 H0 (vi_ra km qs as A) H locs ls vs w1
  | [], as, av, A, g, _, _, _ => by unfold vi_ra; exact g
  | q :: qs, [], av, A, g, _, _, _ => by unfold vi_ra; exact g
  | q :: qs, a :: as, [], A, g, _, _, hl => by cases hl
  | q :: qs, a :: as, x :: av, A, g, h1, h2, hl => by
    unfold vi_ra
    refine vi_ra_ok (av := av) ?_ (fun j q2 y hq hy => h1 (j + 1) q2 y hq hy) (fun j a2 y ha hy => h2 (j + 1) a2 y ha hy) (by simpa using hl)
    by_cases c1 : a.1 = 0
    · rw [if_pos c1]; exact g
    · rw [if_neg c1]
      refine vi_G_upd (lo := A.1) (st := A.2.1) (fa := A.2.2.1) (n := A.2.2.2) g (v := x) ?_ (h2 0 a x rfl rfl)
      unfold vi_fo
      by_cases c2 : km q.2 = true
      · rw [if_pos c2]; exact h1 0 q x rfl rfl c2
      · rw [if_neg c2]; exact trivial
theorem vi_ra_n {km : VO → Bool} : ∀ {qs : List (VA × VO)} {as : List VA} {A : VS}, (vi_ra km qs as A).2.2.2 = A.2.2.2
  | [], as, A => by unfold vi_ra; rfl
  | q :: qs, [], A => by unfold vi_ra; rfl
  | q :: qs, a :: as, A => by
    unfold vi_ra
    rw [vi_ra_n]
    by_cases c1 : a.1 = 0
    · rw [if_pos c1]
    · rw [if_neg c1, vi_upd_n]
/-- behind a call -/
theorem vi_aft_ok {ct : VCt} {alt : VAlt} {qs rest : List (VA × VO)} {av vs : List Value} {H H1 : Heap} {locs locs1 : List Loc} {w1 : va_W} {v : Option Value} (g : vi_G KT D cy Z ad τ nL al A0 H0 (lo, rest, fa, n) H locs ls vs w) (hq : ∀ (j : Nat) (q : VA × VO) (x : Value), qs[j]? = some q → av[j]? = some x → vi_path τ ls w q.2 x) (hl : qs.length = av.length)
    (p1 : va_P D vwCl w1 H1) (p2 : va_D A0 w1) (p3 : va_S A0 H0 H1 locs1) (p4 : vi_tw KT cy Z ad τ w1) (hk : vi_kept τ ct.2.2.2.1 w w1) (ha : vi_alt ad τ av w1 alt v) : vi_G KT D cy Z ad τ nL al A0 H0 (vi_aft ct alt qs rest lo fa n) H1 locs1 ls vs w1 := by
  unfold vi_aft
  have hk1 : ∀ (o : VO) (x : Value), vi_km ct.2.2.2.1 o = true → vi_path τ ls w o x → vi_path τ ls w1 o x := fun o x h1 h2 => hk.1 ls o x h1 h2
  refine vi_ra_ok (av := av) ⟨p1, p2, p3, p4, g.2.2.2.2.1, g.2.2.2.2.2.1, vi_stk_map hk1 g.2.2.2.2.2.2.1, fun f hf => ?_⟩ (fun j q x h1 h2 h3 => hk1 _ _ h3 (hq j q x h1 h2)) ha.2.1 hl
  rcases List.mem_append.mp hf with hf | hf
  · obtain ⟨f0, h1, h2⟩ := List.mem_filterMap.mp hf
    by_cases c1 : (vi_tr qs f0.1).1 = 0
    · rw [if_pos c1] at h2; cases h2
    · rw [if_neg c1] at h2
      cases h2
      obtain ⟨x, q1, q2⟩ := ha.2.2 f0 h1
      refine ⟨x, vi_tr_to (fun j a y h3 h4 h5 => ?_) q1, q2⟩
      have h6 := hq j a y h3 h4
      obtain ⟨a1, t, i, b1, b2⟩ := a
      have h5 : t = 1 := h5
      subst h5
      exact h6
  · exact vi_ff_map hk1 g.2.2.2.2.2.2.2 f hf
theorem vi_ast_ok {i k : Nat} (h : vi_ast cc pc = some (i, k)) : (k = 1 ∧ ∃ j : Fin 4, (j : Nat) = i ∧ decode cc pc = .ok (.astore_n j, 1)) ∨ (k = 2 ∧ decode cc pc = .ok (.astore i, 2)) := by
  unfold vi_ast at h
  split at h
  · rename_i j hj
    cases h
    exact Or.inl ⟨rfl, j, rfl, hj⟩
  · rename_i j hj
    cases h
    exact Or.inr ⟨rfl, hj⟩
  · cases h
/-- the road behind a call that ended so -/
theorem vi_res_ok (hal : ∀ q ∈ al, q.1 < na ∧ q.2.category = 1) (hx : p.tables.exec = Jvm.exec) (hb : c.code = cc) {alt : VAlt} {A : VS} {q : Nat × VS} {H : Heap} {locs : List Loc} {vs av : List Value} {v : Option Value} (h : vi_res cc na nL pc alt A = some q) (g : vi_G KT D cy Z ad τ nL al A0 H0 A H locs ls vs w) (ha : vi_alt ad τ av w alt v) (k : vi_W p l e R s m args below meth c Q KT nL al D cy Z ad τ A0 H0 q.1 q.2) : W p l e R s m args below meth c H locs A.2.2.2 (6 * A.2.2.2) Q (F0 m (pc + 3) ls (v.toList ++ vs)) := by
  obtain ⟨ret, ra, rf, rr⟩ := alt
  obtain ⟨lo, st, fa, n⟩ := A
  unfold vi_res at h
  rcases ret with _ | ⟨a, ret⟩
  · cases h
    obtain rfl : v = none := ha.1
    exact k H locs ls vs w g
  · obtain ⟨⟨x, rfl, h1, h2⟩, -⟩ := ha
    rcases rr with _ | ⟨r0, rr⟩
    · cases h
      exact k H locs ls (x :: vs) w (vi_G_push g h1 trivial)
    · dsimp only at h h2
      by_cases c1 : a.1 = 3
      · rw [if_pos c1] at h
        cases hs : vi_ast cc (pc + 3) with
        | none => rw [hs] at h; cases h
        | some ik =>
          obtain ⟨i, kk⟩ := ik
          rw [hs] at h
          obtain ⟨B, b1, rfl⟩ := vi_map1 h
          have hn := vi_st_n b1
          have key : ∀ ls2 : Array Slot, lv_has ls2 nL ((i, x) :: (vi_held ls nL).filter (fun q => !(q.1 == i) && !(q.1 + 1 == i && q.2.category == 2))) → W p l e R s m args below meth c H locs n (6 * n) Q (F0 m (pc + 3 + kk) ls2 vs) := by
            intro ls2 hls
            have g2 := vi_G_st (o := vi_o0) hal b1 g h1 hls
            have hl1 := (vi_ls1_of g.2.2.2.2.1.1 hls).1
            have kq := k H locs ls2 vs w ⟨g2.1, g2.2.1, g2.2.2.1, g2.2.2.2.1, g2.2.2.2.2.1, g2.2.2.2.2.2.1, g2.2.2.2.2.2.2.1, fun f hf => ?_⟩
            · rw [show (pc + 3 + kk, B.1, B.2.1, (List.filterMap (fun f => if (vi_ab f.1 i).1 = 0 then none else some (vi_ab f.1 i, f.2)) (r0 :: rr)) ++ B.2.2.1, B.2.2.2).2.2.2.2 = n from hn] at kq
              exact kq
            · rcases List.mem_append.mp hf with hf | hf
              · obtain ⟨f0, q1, q2⟩ := List.mem_filterMap.mp hf
                by_cases c2 : (vi_ab f0.1 i).1 = 0
                · rw [if_pos c2] at q2; cases q2
                · rw [if_neg c2] at q2
                  cases q2
                  obtain ⟨y, y1, y2⟩ := h2 f0 q1
                  refine ⟨y, ?_, y2⟩
                  obtain ⟨⟨t, j, ci, k9⟩, fv⟩ := f0
                  unfold vi_ab at c2 ⊢
                  by_cases c3 : t = 2 ∧ j = 0
                  · obtain ⟨rfl, rfl⟩ := c3
                    rw [if_pos ⟨rfl, rfl⟩]
                    obtain ⟨q9, a9, vs9, z1, z2, z3⟩ := y1
                    have z4 := vi_av_at.mp z1
                    cases z4
                    exact ⟨q9, a9, vs9, hl1, z2, z3⟩
                  · exact absurd rfl (by rw [if_neg c3] at c2; exact c2)
              · exact g2.2.2.2.2.2.2.2 f hf
          rcases vi_ast_ok hs with ⟨rfl, j, rfl, hd⟩ | ⟨rfl, hd⟩
          · rcases vi_r (Or.inr c1) h1 with rfl | ⟨b, rfl⟩
            · exact lv_astore_nN hx hb hd rfl (vi_held_has (vi_has_nil g.2.2.2.2.1)) (vi_st_lt b1) rfl key
            · exact lv_astore_n hx hb hd rfl (vi_held_has (vi_has_nil g.2.2.2.2.1)) (vi_st_lt b1) rfl key
          · rcases vi_r (Or.inr c1) h1 with rfl | ⟨b, rfl⟩
            · exact lv_astoreN hx hb hd (vi_held_has (vi_has_nil g.2.2.2.2.1)) (vi_st_lt b1) rfl key
            · exact lv_astore hx hb hd (vi_held_has (vi_has_nil g.2.2.2.2.1)) (vi_st_lt b1) rfl key
      · rw [if_neg c1] at h; cases h
end VIN
