section VIH
variable {p : Program} {l : Launch} {e : Env} {R : Room} {s : State} {m : MethodId} {args : Array Value} {below : List Frame} {meth : Method} {c : Code} {Q : State → Prop} {cc : ByteArray} {own : String}
variable {KT : List VK} {SG : List Nat} {na nL : Nat} {al : List (Nat × Value)} {FT : List (Nat × Nat × Nat)} {FP : List (Nat × Nat × Nat × Nat)} {CT C2 : List (Nat × Int)} {D : va_G} {cy : Nat → ClassId} {Z : va_W → Prop} {ad τ : List Nat} {A0 : Nat → Prop} {H0 : Heap}
variable {lo : List VA} {st : List (VA × VO)} {fa : List VF} {n pc : Nat} {L : List (Nat × VS)} {ls : Array Slot} {w : va_W}
theorem vi_null {a : VA} {v : Value} (h1 : a.1 = 2) (h : vi_ok ad τ a v) : v = .null := by
  obtain ⟨t, u, z⟩ := a
  have h1 : t = 2 := h1
  subst h1
  exact h
theorem vi_ref3 {a : VA} {v : Value} (h1 : a.1 = 3) (h : vi_ok ad τ a v) : (a.2.2 ≠ 0 ∧ v = .null) ∨ ∃ b : Nat, v = .ref b ∧ vi_ok ad τ (3, a.2.1, 0) v := by
  obtain ⟨t, u, z⟩ := a
  have h1 : t = 3 := h1
  subst h1
  rcases h with h | ⟨q, b, h2, h3, h4⟩
  · exact Or.inl h
  · exact Or.inr ⟨b, h4, Or.inr ⟨q, b, h2, h3, h4⟩⟩
theorem vr_ifnull (hx : p.tables.exec = Jvm.exec) (hb : c.code = cc) {off : Int} (hd : decode cc pc = .ok (.ifnull off, 3)) {a : VA} {o : VO} (ht : vi_tok pc off = true) (h : (if a.1 = 2 then some [(vi_tgt pc off, lo, st, fa, n)] else if a.1 = 3 then some ((if a.2.2 = 0 then [] else [(vi_tgt pc off, vi_upd o (2, 0, 0) lo st fa n)]) ++ [(pc + 3, vi_upd o (3, a.2.1, 0) lo st fa n)]) else none) = some L)
    (k : vi_K p l e R s m args below meth c Q KT nL al D cy Z ad τ A0 H0 L) : vi_W p l e R s m args below meth c Q KT nL al D cy Z ad τ A0 H0 pc (lo, (a, o) :: st, fa, n) := by
  intro H locs ls vs w g
  obtain ⟨v, vs2, rfl, e1, e2, e3⟩ := vi_stk_c g.2.2.2.2.2.2.1
  have g2 := vi_G_pop g
  have ht := vi_tgt_ok ht
  by_cases c1 : a.1 = 2
  · rw [if_pos c1] at h
    cases h
    obtain rfl := vi_null c1 e1
    exact lv_ifnullN hx hb hd ht (vi_one k H locs ls _ w g2)
  · rw [if_neg c1] at h
    by_cases c2 : a.1 = 3
    · rw [if_pos c2] at h
      cases h
      rcases vi_ref3 c2 e1 with ⟨h0, rfl⟩ | ⟨b, rfl, hb2⟩
      · rw [if_neg h0] at k
        have kk := k _ (List.mem_append_left _ (List.mem_singleton.mpr rfl)) H locs ls vs2 w (vi_G_upd g2 e2 (show vi_ok ad τ (2, 0, 0) Value.null from rfl))
        simp only [vi_upd_n] at kk
        exact lv_ifnullN hx hb hd ht kk
      · have kk := k _ (List.mem_append_right _ (List.mem_singleton.mpr rfl)) H locs ls vs2 w (vi_G_upd g2 e2 hb2)
        simp only [vi_upd_n] at kk
        exact lv_ifnull hx hb hd kk
    · rw [if_neg c2] at h; cases h
theorem vr_ifnonnull (hx : p.tables.exec = Jvm.exec) (hb : c.code = cc) {off : Int} (hd : decode cc pc = .ok (.ifnonnull off, 3)) {a : VA} {o : VO} (ht : vi_tok pc off = true) (h : (if a.1 = 2 then some [(pc + 3, lo, st, fa, n)] else if a.1 = 3 then some ((if a.2.2 = 0 then [] else [(pc + 3, vi_upd o (2, 0, 0) lo st fa n)]) ++ [(vi_tgt pc off, vi_upd o (3, a.2.1, 0) lo st fa n)]) else none) = some L)
    (k : vi_K p l e R s m args below meth c Q KT nL al D cy Z ad τ A0 H0 L) : vi_W p l e R s m args below meth c Q KT nL al D cy Z ad τ A0 H0 pc (lo, (a, o) :: st, fa, n) := by
  intro H locs ls vs w g
  obtain ⟨v, vs2, rfl, e1, e2, e3⟩ := vi_stk_c g.2.2.2.2.2.2.1
  have g2 := vi_G_pop g
  have ht := vi_tgt_ok ht
  by_cases c1 : a.1 = 2
  · rw [if_pos c1] at h
    cases h
    obtain rfl := vi_null c1 e1
    exact lv_ifnonnullN hx hb hd (vi_one k H locs ls _ w g2)
  · rw [if_neg c1] at h
    by_cases c2 : a.1 = 3
    · rw [if_pos c2] at h
      cases h
      rcases vi_ref3 c2 e1 with ⟨h0, rfl⟩ | ⟨b, rfl, hb2⟩
      · rw [if_neg h0] at k
        have kk := k _ (List.mem_append_left _ (List.mem_singleton.mpr rfl)) H locs ls vs2 w (vi_G_upd g2 e2 (show vi_ok ad τ (2, 0, 0) Value.null from rfl))
        simp only [vi_upd_n] at kk
        exact lv_ifnonnullN hx hb hd kk
      · have kk := k _ (List.mem_append_right _ (List.mem_singleton.mpr rfl)) H locs ls vs2 w (vi_G_upd g2 e2 hb2)
        simp only [vi_upd_n] at kk
        exact lv_ifnonnull hx hb hd ht kk
    · rw [if_neg c2] at h; cases h
theorem vi_rf {a : VA} {v : Value} (h1 : a.1 = 2 ∨ a.1 = 3) (h : vi_ok ad τ a v) : ∃ r : Option Nat, v = va_rf r := by
  rcases vi_r h1 h with rfl | ⟨b, rfl⟩
  · exact ⟨none, rfl⟩
  · exact ⟨some b, rfl⟩
theorem vr_acmp (hx : p.tables.exec = Jvm.exec) (hb : c.code = cc) {cd : ACond} {off : Int} (hd : decode cc pc = .ok (.if_acmp cd off, 3)) {a b : VA} {oa ob : VO} (ha : a.1 = 2 ∨ a.1 = 3) (hb1 : b.1 = 2 ∨ b.1 = 3) (ht : vi_tok pc off = true)
    (k : vi_K p l e R s m args below meth c Q KT nL al D cy Z ad τ A0 H0 [(vi_tgt pc off, lo, st, fa, n), (pc + 3, lo, st, fa, n)]) : vi_W p l e R s m args below meth c Q KT nL al D cy Z ad τ A0 H0 pc (lo, (a, oa) :: (b, ob) :: st, fa, n) := by
  intro H locs ls vs w g
  obtain ⟨v, vs1, rfl, e1, e2, e3⟩ := vi_stk_c g.2.2.2.2.2.2.1
  obtain ⟨v2, vs2, rfl, f1, f2, f3⟩ := vi_stk_c e3
  have g2 := vi_G_pop (vi_G_pop g)
  have ht := vi_tgt_ok ht
  obtain ⟨r1, rfl⟩ := vi_rf ha e1
  obtain ⟨r2, rfl⟩ := vi_rf hb1 f1
  have k1 := k _ List.mem_cons_self H locs ls vs2 w g2
  have k2 := k _ (List.mem_cons_of_mem _ List.mem_cons_self) H locs ls vs2 w g2
  cases cd
  · exact lv_acmp_eq hx hb hd ht (fun _ => k1) (fun _ => k2)
  · exact lv_acmp_ne hx hb hd ht (fun _ => k1) (fun _ => k2)
/-- what stands at a reference of kind d -/
theorem vi_obj {a : VA} {v : Value} (h1 : a.1 = 3) (h0 : a.2.2 = 0) (h : vi_ok ad τ a v) (hw : vi_tw KT cy Z ad τ w) : ∃ (q b : Nat) (e : va_E) (k : VK), v = .ref b ∧ τ[q]? = some a.2.1.toNat ∧ w[q]? = some (b, e) ∧ KT[a.2.1.toNat]? = some k ∧ vi_cell ad τ cy k e := by
  obtain ⟨q, b, h1, h2, h3⟩ := vi_nn h1 h0 h
  obtain ⟨e, k, g1, g2, g3⟩ := vi_tw_get hw h2 h3
  exact ⟨q, b, e, k, h1, h2, g1, g2, g3⟩
theorem vi_fget_ok {o : VO} {v : Value} (hD : va_D A0 w) (hSG : vi_sg SG τ) (h0 : o.1 ≠ 0) (h3 : o.1 = 3 → o.2.1 ∈ SG) (hp : vi_path τ ls w o v) : ∀ {fa : List VF} {d : VA}, (∀ f ∈ fa, vi_fact ad τ ls w f) → vi_ok ad τ d v → vi_ok ad τ (vi_fget fa o d) v
  | [], d, _, hd => hd
  | f :: r, d, hf, hd => by
    unfold vi_fget
    by_cases c1 : (f.1 == o) = true
    · rw [if_pos c1]
      have e : f.1 = o := by simpa using c1
      obtain ⟨v2, g1, g2⟩ := hf f List.mem_cons_self
      rw [e] at g1
      rw [vi_path_fun hD hSG h0 h3 hp g1]
      exact g2
    · rw [if_neg c1]
      exact vi_fget_ok hD hSG h0 h3 hp (fun x hx => hf x (List.mem_cons_of_mem _ hx)) hd
theorem vi_src_path {d ci k q b : Nat} {o : VO} {vs : List Value} {v : Value} (ht : τ[q]? = some d) (hq : w[q]? = some (b, .inr (ci, vs))) (hv : vs[k]? = some v) (ho : o.1 = 1 → vi_path τ ls w o (.ref b)) : vi_path τ ls w (vi_src SG d ci k o) v := by
  unfold vi_src
  by_cases c1 : d ∈ SG
  · rw [if_pos c1]
    exact ⟨q, b, vs, ht, hq, hv⟩
  · rw [if_neg c1]
    by_cases c2 : o.1 = 1
    · rw [if_pos c2]
      obtain ⟨t, j, x, y⟩ := o
      have c2 : t = 1 := c2
      subst c2
      exact ⟨q, b, vs, ho rfl, hq, hv⟩
    · rw [if_neg c2]; exact trivial
theorem vi_src_sg {d ci k : Nat} {o : VO} (h : (vi_src SG d ci k o).1 = 3) : (vi_src SG d ci k o).2.1 ∈ SG := by
  unfold vi_src at h ⊢
  by_cases c1 : d ∈ SG
  · rw [if_pos c1]; exact c1
  · rw [if_neg c1] at h ⊢
    by_cases c2 : o.1 = 1
    · rw [if_pos c2] at h; cases h
    · rw [if_neg c2] at h; cases h
theorem vr_getfield (hx : p.tables.exec = Jvm.exec) (hb : c.code = cc) {i : Nat} (hd : decode cc pc = .ok (.getfield i, 3)) (hSG : vi_sg SG τ) (hf : ∀ (i ci k : Nat), (i, ci, k) ∈ FT → vi_Fg p l e R s m args below meth c Q cc D i ci k) {a : VA} {o : VO} {ci k x : Nat} {fs : List VA} {b : VA} (h1 : a.1 = 3) (h0 : a.2.2 = 0) (h2 : vi_find FT i = some (ci, k)) (h3 : KT[a.2.1.toNat]? = some (0, ci, x, fs)) (h4 : fs[k]? = some b)
    (kk : vi_W p l e R s m args below meth c Q KT nL al D cy Z ad τ A0 H0 (pc + 3) (lo, (vi_fval fa (vi_src SG a.2.1.toNat ci k o) b, vi_src SG a.2.1.toNat ci k o) :: st, fa, n)) : vi_W p l e R s m args below meth c Q KT nL al D cy Z ad τ A0 H0 pc (lo, (a, o) :: st, fa, n) := by
  intro H locs ls vs w g
  obtain ⟨v, vs2, rfl, e1, e2, e3⟩ := vi_stk_c g.2.2.2.2.2.2.1
  have g2 := vi_G_pop g
  obtain ⟨q, ab, ee, kd, rfl, f1, f2, f3, f4⟩ := vi_obj h1 h0 e1 g.2.2.2.1
  cases h3.symm.trans f3
  obtain ⟨vs, rfl, l1, l2⟩ := f4
  have hk : k < vs.length := by rw [l1]; exact (List.getElem?_eq_some_iff.mp h4).1
  have hv : vs[k]? = some vs[k] := List.getElem?_eq_getElem hk
  have hok := l2 k b _ h4 hv
  have hp := vi_src_path (SG := SG) (ls := ls) f1 f2 hv (fun _ => e2)
  refine hf i ci k (vi_find_mem h2) H locs _ _ w q ab pc vs vs2 _ ls g.1 f2 hv hd (kk H locs ls _ w (vi_G_push g2 ?_ hp))
  unfold vi_fval
  by_cases c1 : (vi_src SG a.2.1.toNat ci k o).1 = 0
  · rw [if_pos c1]; exact hok
  · rw [if_neg c1]
    exact vi_fget_ok g.2.1 hSG c1 vi_src_sg hp g2.2.2.2.2.2.2.2 hok
/-- a property of worlds that the allowed writes keep -/
def vi_Zp (FP : List (Nat × Nat × Nat × Nat)) (τ : List Nat) (Z : va_W → Prop) : Prop := ∀ (i ci k d : Nat), (i, ci, k, d) ∈ FP → ∀ (w : va_W) (q a : Nat) (fs : List Value) (v : Value), τ[q]? = some d → w[q]? = some (a, .inr (ci, fs)) → Z w → Z (w.set q (a, .inr (ci, fs.set k v)))
def vi_Za (FP : List (Nat × Nat × Nat × Nat)) (τ : List Nat) (Z : va_W → Prop) : Prop := ∀ (d : Nat), vi_aw FP d = true → ∀ (w : va_W) (q a : Nat) (cA : ClassId) (N : Nat) (f g : Nat → Int32), τ[q]? = some d → w[q]? = some (a, .inl (cA, N, .inl f)) → Z w → Z (w.set q (a, .inl (cA, N, .inl g)))
theorem vi_keep_ok {d ci k q : Nat} {o : VO} (hq : τ[q]? = some d) (h : vi_keep d ci k o = true) : o.1 = 0 ∨ o.1 = 1 ∨ ¬ (o.2.2.1 = ci ∧ o.2.2.2 = k) ∨ (o.1 = 3 ∧ τ[q]? ≠ some o.2.1) := by
  simp only [vi_keep, Bool.or_eq_true, Bool.and_eq_true, beq_iff_eq, Bool.not_eq_true', Bool.and_eq_false_iff, beq_eq_false_iff_ne] at h
  rcases h with ((h | h) | h) | h
  · exact Or.inl h
  · exact Or.inr (Or.inl h)
  · refine Or.inr (Or.inr (Or.inl (fun z => ?_)))
    rcases h with h | h
    · exact h z.1
    · exact h z.2
  · exact Or.inr (Or.inr (Or.inr ⟨h.1, fun z => h.2 (Option.some.inj (z.symm.trans hq))⟩))
theorem vr_putfield (hZp : vi_Zp FP τ Z) (hx : p.tables.exec = Jvm.exec) (hb : c.code = cc) {i : Nat} (hd : decode cc pc = .ok (.putfield i, 3)) (hf : ∀ (i ci k d9 : Nat), (i, ci, k, d9) ∈ FP → ∀ (d x : Nat) (fs : List VA) (b : VA) (v : Value), KT[d]? = some (0, ci, x, fs) → fs[k]? = some b → vi_ok ad τ b v → vi_Fp p l e R s m args below meth c Q cc D A0 H0 i ci k v) {a b c0 : VA} {o ob : VO} {ci k x : Nat} {fs : List VA} (h1 : a.1 = 3) (h0 : a.2.2 = 0) (h2 : vi_find FP i = some (ci, k, a.2.1.toNat)) (h3 : KT[a.2.1.toNat]? = some (0, ci, x, fs)) (h4 : fs[k]? = some c0) (h5 : vi_le b c0 = true)
    (kk : vi_W p l e R s m args below meth c Q KT nL al D cy Z ad τ A0 H0 (pc + 3) (lo, vi_fs (vi_keep a.2.1.toNat ci k) st, (let o2 := vi_src SG a.2.1.toNat ci k o; if o2.1 = 0 then vi_ff (vi_keep a.2.1.toNat ci k) fa else (o2, b) :: vi_ff (vi_keep a.2.1.toNat ci k) fa), n)) : vi_W p l e R s m args below meth c Q KT nL al D cy Z ad τ A0 H0 pc (lo, (b, ob) :: (a, o) :: st, fa, n) := by
  intro H locs ls vs w g
  obtain ⟨v, vs1, rfl, e1, e2, e3⟩ := vi_stk_c g.2.2.2.2.2.2.1
  obtain ⟨v2, vs2, rfl, d1, d2, d3⟩ := vi_stk_c e3
  have g2 := vi_G_pop (vi_G_pop g)
  obtain ⟨q, ab, ee, kd, rfl, f1, f2, f3, f4⟩ := vi_obj h1 h0 d1 g.2.2.2.1
  cases h3.symm.trans f3
  obtain ⟨vs, rfl, l1, l2⟩ := f4
  have hk : k < vs.length := by rw [l1]; exact (List.getElem?_eq_some_iff.mp h4).1
  have hok : vi_ok ad τ c0 v := vi_le_ok h5 e1
  refine hf i ci k _ (vi_find_mem h2) _ x fs c0 v h3 h4 hok H locs _ _ w q ab pc vs vs2 ls g.1 g.2.1 g.2.2.1 f2 hk hd (fun H1 locs1 p1 p2 p3 => ?_)
  have hl := (List.getElem?_eq_some_iff.mp f2).1
  have hcell : vi_cell ad τ cy (0, ci, x, fs) (.inr (ci, vs.set k v)) := by
    refine ⟨_, rfl, by rw [List.length_set]; exact l1, fun j b2 v2 hj hv2 => ?_⟩
    by_cases e : j = k
    · subst e
      rw [List.getElem?_set_self hk] at hv2
      cases hv2
      cases h4.symm.trans hj
      exact hok
    · rw [List.getElem?_set_ne (Ne.symm e)] at hv2
      exact l2 j b2 v2 hj hv2
  refine kk H1 locs1 ls vs2 _ ⟨p1, p2, p3, vi_tw_set g2.2.2.2.1 f1 f2 f3 hcell (hZp i ci k _ (vi_find_mem h2) _ _ _ _ _ f1 f2 g2.2.2.2.1.2.2.2), g2.2.2.2.2.1, g2.2.2.2.2.2.1, vi_stk_map (fun o2 x2 ho hp => vi_path_put f2 (vi_keep_ok f1 ho) hp) g2.2.2.2.2.2.2.1, ?_⟩
  have hff := vi_ff_map (ad := ad) (f := vi_keep a.2.1.toNat ci k) (ls2 := ls) (w2 := w.set q (ab, .inr (ci, vs.set k v))) (fun o2 x2 ho hp => vi_path_put (x := v) f2 (vi_keep_ok f1 ho) hp) g2.2.2.2.2.2.2.2
  dsimp only
  by_cases c1 : (vi_src SG a.2.1.toNat ci k o).1 = 0
  · rw [if_pos c1]; exact hff
  · rw [if_neg c1]
    intro f hf2
    rcases List.mem_cons.mp hf2 with rfl | hf2
    · refine ⟨v, ?_, e1⟩
      have hq2 : (w.set q (ab, .inr (ci, vs.set k v)))[q]? = some (ab, .inr (ci, vs.set k v)) := List.getElem?_set_self hl
      refine vi_src_path f1 hq2 (List.getElem?_set_self hk) (fun c3 => ?_)
      obtain ⟨t, j, x1, x2⟩ := o
      have c3 : t = 1 := c3
      subst c3
      exact d2
    · exact hff f hf2
end VIH
