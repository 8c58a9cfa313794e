section SGE
variable {p : Program} {l : Launch} {e : Env} {R : Room} {s : State} {m : MethodId} {args : Array Value} {below : List Frame} {meth : Method} {c : Code} {H : Heap} {locs : List Loc} {cells slots : Nat} {Q : State → Prop} {cc : ByteArray} {pc : Nat} {ls : Array Slot} {rest : List Value}
variable {D : va_G} {cy : Nat → ClassId} {A0 : Nat → Prop} {H0 : Heap} {σ σ2 : SG} {a k t ci N index j : Nat} {own C : String} {T : u_T} {Ts : List Cond} {i x : Int32}
theorem sg_vpin (h1 : 0 ≤ i.toInt) (h2 : i.toInt < N) (hN : N < 2147483648) : vp_in i N ∧ i.toNatClampNeg = i.toInt.toNat := by
  have e : i.toNatClampNeg = i.toInt.toNat := rfl
  refine ⟨fun z => ?_, e⟩
  rcases z with z | z
  · rw [Int32.lt_iff_toInt_lt, Int32.toInt_zero] at z; omega
  · rw [e] at z; omega
theorem sg_ai {t : Nat} (hG : sgG D cy A0 H0 σ H locs) (ha : sgT σ a = 100 + t) (hi : sgIA t = true) : ∃ q : Nat, (sgL cy σ)[q]? = some (a, .inl (cy t, sgN σ a, .inl (sgI σ a))) := by
  obtain ⟨q, hq⟩ := sgL_at (cy := cy) hG.1.2 (a := a) (by omega)
  rw [sgE_ia ha hi] at hq
  exact ⟨q, hq⟩
theorem sg_ar {t : Nat} (hG : sgG D cy A0 H0 σ H locs) (ha : sgT σ a = 100 + t) (hi : sgIA t = false) : ∃ q : Nat, (sgL cy σ)[q]? = some (a, .inl (cy t, sgN σ a, .inr (.inr (.inr (.inr (sgR σ a)))))) := by
  obtain ⟨q, hq⟩ := sgL_at (cy := cy) hG.1.2 (a := a) (by omega)
  rw [sgE_ra ha hi] at hq
  exact ⟨q, hq⟩
theorem sg_iald (hexec : p.tables.exec = Jvm.exec) (hb : c.code = cc) (hK : va_K D vwCl (tyL cy) s) (hG : sgG D cy A0 H0 σ H locs) (hdg : decode cc pc = .ok (.iaload, 1)) (ha : sgT σ a = 100) (h1 : 0 ≤ i.toInt) (h2 : i.toInt < sgN σ a) (h3 : sgN σ a < 2147483648)
    (kk : W p l e R s m args below meth c H locs cells slots Q (F0 m (pc + 1) ls (.int (sgI σ a i.toInt.toNat) :: rest))) : W p l e R s m args below meth c H locs cells slots Q (F0 m pc ls (.int i :: .ref a :: rest)) := by
  obtain ⟨q, hq⟩ := sg_ai (t := 0) hG ha rfl
  obtain ⟨v1, v2⟩ := sg_vpin h1 h2 h3
  refine va_iald (cl := vwCl) (tys := tyL cy) hexec hb hK (sgL_P hG.1) q 0 hq rfl v1 hdg ?_
  rw [v2]; exact kk
theorem sg_cald (hexec : p.tables.exec = Jvm.exec) (hb : c.code = cc) (hK : va_K D vwCl (tyL cy) s) (hG : sgG D cy A0 H0 σ H locs) (hdg : decode cc pc = .ok (.caload, 1)) (ha : sgT σ a = 101) (h1 : 0 ≤ i.toInt) (h2 : i.toInt < sgN σ a) (h3 : sgN σ a < 2147483648)
    (kk : W p l e R s m args below meth c H locs cells slots Q (F0 m (pc + 1) ls (.int (sgI σ a i.toInt.toNat) :: rest))) : W p l e R s m args below meth c H locs cells slots Q (F0 m pc ls (.int i :: .ref a :: rest)) := by
  obtain ⟨q, hq⟩ := sg_ai (t := 1) hG ha rfl
  obtain ⟨v1, v2⟩ := sg_vpin h1 h2 h3
  refine va_cald (cl := vwCl) (tys := tyL cy) hexec hb hK (sgL_P hG.1) q 1 hq rfl v1 hdg ?_
  rw [v2]; exact kk
theorem sg_zald (hexec : p.tables.exec = Jvm.exec) (hb : c.code = cc) (hK : va_K D vwCl (tyL cy) s) (hG : sgG D cy A0 H0 σ H locs) (hdg : decode cc pc = .ok (.baload, 1)) (ha : sgT σ a = 111) (h1 : 0 ≤ i.toInt) (h2 : i.toInt < sgN σ a) (h3 : sgN σ a < 2147483648)
    (kk : W p l e R s m args below meth c H locs cells slots Q (F0 m (pc + 1) ls (.int (sgI σ a i.toInt.toNat) :: rest))) : W p l e R s m args below meth c H locs cells slots Q (F0 m pc ls (.int i :: .ref a :: rest)) := by
  obtain ⟨q, hq⟩ := sg_ai (t := 11) hG ha rfl
  obtain ⟨v1, v2⟩ := sg_vpin h1 h2 h3
  refine va_zald (cl := vwCl) (tys := tyL cy) hexec hb hK (sgL_P hG.1) q 11 hq rfl v1 hdg ?_
  rw [v2]; exact kk
theorem sg_aald (t : Nat) {C : String} (hexec : p.tables.exec = Jvm.exec) (hb : c.code = cc) (hK : va_K D vwCl (tyL cy) s) (hG : sgG D cy A0 H0 σ H locs) (hi : sgIA t = false) (ht : (tyL cy)[t]? = some (cy t, .object C)) (hdg : decode cc pc = .ok (.aaload, 1)) (ha : sgT σ a = 100 + t) (h1 : 0 ≤ i.toInt) (h2 : i.toInt < sgN σ a) (h3 : sgN σ a < 2147483648)
    (kk : W p l e R s m args below meth c H locs cells slots Q (F0 m (pc + 1) ls (va_rf (sgR σ a i.toInt.toNat) :: rest))) : W p l e R s m args below meth c H locs cells slots Q (F0 m pc ls (.int i :: .ref a :: rest)) := by
  obtain ⟨q, hq⟩ := sg_ar hG ha hi
  obtain ⟨v1, v2⟩ := sg_vpin h1 h2 h3
  refine va_aldq (cl := vwCl) (tys := tyL cy) hexec hb hK (sgL_P hG.1) q t hq ht v1 hdg ?_
  rw [v2]; exact kk
/-- an array's length -/
theorem sg_alen (t : Nat) {ty : FieldType} (hexec : p.tables.exec = Jvm.exec) (hb : c.code = cc) (hK : va_K D vwCl (tyL cy) s) (hG : sgG D cy A0 H0 σ H locs) (ht : (tyL cy)[t]? = some (cy t, ty)) (hdg : decode cc pc = .ok (.arraylength, 1)) (ha : sgT σ a = 100 + t)
    (kk : W p l e R s m args below meth c H locs cells slots Q (F0 m (pc + 1) ls (.int (nI (sgN σ a)) :: rest))) : W p l e R s m args below meth c H locs cells slots Q (F0 m pc ls (.ref a :: rest)) := by
  by_cases hi : sgIA t = true
  · obtain ⟨q, hq⟩ := sg_ai hG ha hi
    exact va_alen (cl := vwCl) (tys := tyL cy) hexec hb hK (sgL_P hG.1) q t hq ht rfl hdg kk
  · obtain ⟨q, hq⟩ := sg_ar hG ha (by simpa using hi)
    exact va_alen (cl := vwCl) (tys := tyL cy) hexec hb hK (sgL_P hG.1) q t hq ht rfl hdg kk
theorem sgG_arr {q : Nat} {H1 : Heap} {locs1 : List Loc} {E E2 : va_E} (hG : sgG D cy A0 H0 σ H locs) (hq : (sgL cy σ)[q]? = some (a, E)) (e2 : sgE cy σ2 a = E2) (hb : ∀ b, b ≠ a → sgE cy σ2 b = sgE cy σ b) (hT : ∀ b, sgT σ2 b = sgT σ b) (hO : sgOK σ2) (h1 : va_P D vwCl ((sgL cy σ).set q (a, E2)) H1) (h3 : va_S A0 H0 H1 locs1) : sgG D cy A0 H0 σ2 H1 locs1 :=
  ⟨sgP_set (q := q) (a := a) hG.1 hq (by rw [e2]; exact h1) (fun b hb0 _ => hb b hb0) hT hO, fun b hb0 => hG.2.1 b (by rw [← hT]; exact hb0), h3⟩
theorem sgI_upd {j : Nat} : sgI (sgPI σ a j x) a = upd (sgI σ a) j x := by
  funext b
  rw [sgI_PI]
  by_cases h : b = j
  · subst h; simp [upd]
  · rw [if_neg (fun z => h z.2)]; simp [upd, h]
theorem sgR_upd {j : Nat} {r : Option Nat} : sgR (sgPR σ a j r) a = va_up (sgR σ a) j r := by
  funext b
  rw [sgR_PR]
  by_cases h : b = j
  · subst h; simp [va_up]
  · rw [if_neg (fun z => h z.2)]; simp [va_up, h]
theorem sg_iast (hexec : p.tables.exec = Jvm.exec) (hb : c.code = cc) (hK : va_K D vwCl (tyL cy) s) (hG : sgG D cy A0 H0 σ H locs) (hdg : decode cc pc = .ok (.iastore, 1)) (ha : sgT σ a = 100) (h1 : 0 ≤ i.toInt) (h2 : i.toInt < sgN σ a) (h3 : sgN σ a < 2147483648)
    (kk : ∀ (H1 : Heap) (locs1 : List Loc), sgG D cy A0 H0 (sgPI σ a i.toInt.toNat x) H1 locs1 → W p l e R s m args below meth c H1 locs1 cells slots Q (F0 m (pc + 1) ls rest)) : W p l e R s m args below meth c H locs cells slots Q (F0 m pc ls (.int x :: .int i :: .ref a :: rest)) := by
  obtain ⟨q, hq⟩ := sg_ai (t := 0) hG ha rfl
  obtain ⟨v1, v2⟩ := sg_vpin h1 h2 h3
  refine va_iast (cl := vwCl) (tys := tyL cy) hexec hb hK (sgL_P hG.1) (sgL_D hG.2.1) hG.2.2 q 0 hq rfl v1 hdg (fun H1 locs1 g1 _ g3 => kk H1 locs1 ?_)
  rw [v2] at g1
  refine sgG_arr hG hq ?_ (fun b hb0 => sgE_PI hb0) (fun _ => rfl) (sgOK_PI hG.1.2 (fun t _ h => by omega) (fun h => by omega) (fun h => by omega)) g1 g3
  rw [sgE_ia (σ := sgPI σ a i.toInt.toNat x) (t := 0) ha rfl, sgI_upd]; rfl
theorem sg_cast (hexec : p.tables.exec = Jvm.exec) (hb : c.code = cc) (hK : va_K D vwCl (tyL cy) s) (hG : sgG D cy A0 H0 σ H locs) (hdg : decode cc pc = .ok (.castore, 1)) (ha : sgT σ a = 101) (h1 : 0 ≤ i.toInt) (h2 : i.toInt < sgN σ a) (h3 : sgN σ a < 2147483648) (hx1 : 0 ≤ x.toInt) (hx2 : x.toInt ≤ 65535)
    (kk : ∀ (H1 : Heap) (locs1 : List Loc), sgG D cy A0 H0 (sgPI σ a i.toInt.toNat x) H1 locs1 → W p l e R s m args below meth c H1 locs1 cells slots Q (F0 m (pc + 1) ls rest)) : W p l e R s m args below meth c H locs cells slots Q (F0 m pc ls (.int x :: .int i :: .ref a :: rest)) := by
  obtain ⟨q, hq⟩ := sg_ai (t := 1) hG ha rfl
  obtain ⟨v1, v2⟩ := sg_vpin h1 h2 h3
  have hx : vp_nar .char x = x := by
    obtain ⟨n, hn, e1, e2⟩ := vi_ofNat (x := x) hx1
    have hn2 : n < 65536 := by omega
    have := (pk_charN hn2).1
    unfold vp_nar
    rw [e1, this]
  refine va_cast (cl := vwCl) (tys := tyL cy) hexec hb hK (sgL_P hG.1) (sgL_D hG.2.1) hG.2.2 q 1 hq rfl v1 hdg (fun H1 locs1 g1 _ g3 => kk H1 locs1 ?_)
  rw [v2, hx] at g1
  refine sgG_arr hG hq ?_ (fun b hb0 => sgE_PI hb0) (fun _ => rfl) (sgOK_PI hG.1.2 (fun t _ h => by omega) (fun _ => ⟨hx1, hx2⟩) (fun h => by omega)) g1 g3
  rw [sgE_ia (σ := sgPI σ a i.toInt.toNat x) (t := 1) ha rfl, sgI_upd]; rfl
theorem sg_zast (hexec : p.tables.exec = Jvm.exec) (hb : c.code = cc) (hK : va_K D vwCl (tyL cy) s) (hG : sgG D cy A0 H0 σ H locs) (hdg : decode cc pc = .ok (.bastore, 1)) (ha : sgT σ a = 111) (h1 : 0 ≤ i.toInt) (h2 : i.toInt < sgN σ a) (h3 : sgN σ a < 2147483648) (hx1 : 0 ≤ x.toInt) (hx2 : x.toInt ≤ 1)
    (kk : ∀ (H1 : Heap) (locs1 : List Loc), sgG D cy A0 H0 (sgPI σ a i.toInt.toNat x) H1 locs1 → W p l e R s m args below meth c H1 locs1 cells slots Q (F0 m (pc + 1) ls rest)) : W p l e R s m args below meth c H locs cells slots Q (F0 m pc ls (.int x :: .int i :: .ref a :: rest)) := by
  obtain ⟨q, hq⟩ := sg_ai (t := 11) hG ha rfl
  obtain ⟨v1, v2⟩ := sg_vpin h1 h2 h3
  have hx : vp_nar .boolean x = x := by
    obtain ⟨n, hn, e1, e2⟩ := vi_ofNat (x := x) hx1
    have hn2 : n = 0 ∨ n = 1 := by omega
    rw [e1]
    rcases hn2 with rfl | rfl <;> rfl
  refine va_zast (cl := vwCl) (tys := tyL cy) hexec hb hK (sgL_P hG.1) (sgL_D hG.2.1) hG.2.2 q 11 hq rfl v1 hdg (fun H1 locs1 g1 _ g3 => kk H1 locs1 ?_)
  rw [v2, hx] at g1
  refine sgG_arr hG hq ?_ (fun b hb0 => sgE_PI hb0) (fun _ => rfl) (sgOK_PI hG.1.2 (fun t _ h => by omega) (fun h => by omega) (fun _ => ⟨hx1, hx2⟩)) g1 g3
  rw [sgE_ia (σ := sgPI σ a i.toInt.toNat x) (t := 11) ha rfl, sgI_upd]; rfl
/-- a reference into an array of its own class -/
theorem sg_aast (t : Nat) {b : Nat} {r : vw_C} (hexec : p.tables.exec = Jvm.exec) (hb : c.code = cc) (hK : va_K D vwCl (tyL cy) s) (hG : sgG D cy A0 H0 σ H locs) (hi : sgIA t = false) (hc : vwCl[ci]? = some r) (ht : (tyL cy)[t]? = some (cy t, .object r.1)) (h100 : ci + 1 < 100) (hdg : decode cc pc = .ok (.aastore, 1)) (ha : sgT σ a = 100 + t) (hv : sgT σ b = ci + 1) (h1 : 0 ≤ i.toInt) (h2 : i.toInt < sgN σ a) (h3 : sgN σ a < 2147483648)
    (kk : ∀ (H1 : Heap) (locs1 : List Loc), sgG D cy A0 H0 (sgPR σ a i.toInt.toNat (some b)) H1 locs1 → W p l e R s m args below meth c H1 locs1 cells slots Q (F0 m (pc + 1) ls rest)) : W p l e R s m args below meth c H locs cells slots Q (F0 m pc ls (.ref b :: .int i :: .ref a :: rest)) := by
  obtain ⟨q, hq⟩ := sg_ar hG ha hi
  obtain ⟨v1, v2⟩ := sg_vpin h1 h2 h3
  obtain ⟨qk, hqk⟩ := sgL_at (cy := cy) hG.1.2 (a := b) (by omega)
  rw [sgE_ob hv h100] at hqk
  refine va_astq (cl := vwCl) (tys := tyL cy) hexec hb hK (sgL_P hG.1) (sgL_D hG.2.1) hG.2.2 q t qk ci hq ht hqk hc v1 hdg (fun H1 locs1 g1 _ g3 => kk H1 locs1 ?_)
  rw [v2] at g1
  refine sgG_arr hG hq ?_ (fun b hb0 => sgE_PR hb0) (fun _ => rfl) (sgOK_PR hG.1.2) g1 g3
  rw [sgE_ra (σ := sgPR σ a i.toInt.toNat (some b)) ha hi, sgR_upd]; rfl
theorem sg_aastN (t : Nat) {C : String} (hexec : p.tables.exec = Jvm.exec) (hb : c.code = cc) (hK : va_K D vwCl (tyL cy) s) (hG : sgG D cy A0 H0 σ H locs) (hi : sgIA t = false) (ht : (tyL cy)[t]? = some (cy t, .object C)) (hdg : decode cc pc = .ok (.aastore, 1)) (ha : sgT σ a = 100 + t) (h1 : 0 ≤ i.toInt) (h2 : i.toInt < sgN σ a) (h3 : sgN σ a < 2147483648)
    (kk : ∀ (H1 : Heap) (locs1 : List Loc), sgG D cy A0 H0 (sgPR σ a i.toInt.toNat none) H1 locs1 → W p l e R s m args below meth c H1 locs1 cells slots Q (F0 m (pc + 1) ls rest)) : W p l e R s m args below meth c H locs cells slots Q (F0 m pc ls (.null :: .int i :: .ref a :: rest)) := by
  obtain ⟨q, hq⟩ := sg_ar hG ha hi
  obtain ⟨v1, v2⟩ := sg_vpin h1 h2 h3
  refine va_astqN (cl := vwCl) (tys := tyL cy) hexec hb hK (sgL_P hG.1) (sgL_D hG.2.1) hG.2.2 q t hq ht v1 hdg (fun H1 locs1 g1 _ g3 => kk H1 locs1 ?_)
  rw [v2] at g1
  refine sgG_arr hG hq ?_ (fun b hb0 => sgE_PR hb0) (fun _ => rfl) (sgOK_PR hG.1.2) g1 g3
  rw [sgE_ra (σ := sgPR σ a i.toInt.toNat none) ha hi, sgR_upd]; rfl
end SGE
