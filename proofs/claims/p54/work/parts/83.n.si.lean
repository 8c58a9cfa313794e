section CLS6
/-- the hubs above a device: n steps up -/
def hp (σ : SG) (d : Nat) : Nat → Option Nat
  | 0 => some d
  | n + 1 => (hp σ d n).bind (fun x => sgR σ x 8)
theorem hp_none {σ : SG} {d n m : Nat} (h : hp σ d n = none) (hm : n ≤ m) : hp σ d m = none := by
  induction m with
  | zero => have : n = 0 := by omega
            rw [← this]; exact h
  | succ m ih =>
    by_cases c : n = m + 1
    · rw [← c]; exact h
    · show (hp σ d m).bind _ = none
      rw [ih (by omega)]
      rfl
theorem cl_aldQ {p : Program} {l : Launch} {e : Env} {R : Room} {s : State} {m : MethodId} {args : Array Value} {below : List Frame} {meth : Method} {c : Code} {H : Heap} {locs : List Loc} {k N : Nat} {Q : State → Prop} {cc : ByteArray} {i : Fin 4} {pc i9 : Nat} {ls : Array Slot} {rest : List Value} {r : Option Nat} (hx : p.tables.exec = Jvm.exec) (hb : c.code = cc) (hdg : decode cc pc = .ok (.aload_n i, 1)) (h9 : (i : Nat) = i9) (hi : ls[i9]? = some (.val (va_rf r))) (kk : W p l e R s m args below meth c H locs k N Q (F0 m (pc + 1) ls (va_rf r :: rest))) : W p l e R s m args below meth c H locs k N Q (F0 m pc ls rest) := by
  cases r with
  | none => exact lv_aload_nN hx hb hdg h9 hi kk
  | some a => exact lv_aload_n hx hb hdg h9 hi kk
theorem hp_T {cy : Nat → ClassId} {ad τ : List Nat} {Y : CY} {σ : SG} {d : Nat} (hV : VL cy ad τ Y σ) (hd : sgT σ d = 7) : ∀ {n x : Nat}, hp σ d n = some x → sgT σ x = 7
  | 0, x, h => by cases h; exact hd
  | n + 1, x, h => by
    have h : (hp σ d n).bind (fun x => sgR σ x 8) = some x := h
    cases e : hp σ d n with
    | none => rw [e] at h; cases h
    | some y =>
      rw [e] at h
      exact (VT_rf (ci := 6) (k := 8) (kd := 4) hV.1 (hp_T hV hd e) (by decide) rfl (by decide +kernel) h).1
end CLS6
