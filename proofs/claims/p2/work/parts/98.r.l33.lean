section LGC
variable {p : Program} {l : Launch} {e : Env} {s : State} {m : MethodId} {below : List Frame} {meth : Method} {c : Code} {H : Heap} {locs : List Loc} {Q : State → Prop} {ls : Array Slot}
variable {D : va_G} {cy : Nat → ClassId} {σ0 : SG} {eda ca : Nat} {ia : Nat → Nat} {ad τ : List Nat} {q0 x0 av qv sa L a0 oa od t c0 n0 k N : Nat} {fd : Nat → Option Nat} {xs : Nat → Int32} {i : Int32}
theorem dL_law_1445 : decode cL_law 1445 = .ok (.aload_n 1, 1) := by decide +kernel
theorem dL_law_1446 : decode cL_law 1446 = .ok (.invokevirtual 281, 3) := by decide +kernel
theorem dL_law_1449 : decode cL_law 1449 = .ok (.pop, 1) := by decide +kernel
theorem dL_law_1450 : decode cL_law 1450 = .ok (.aload_n 2, 1) := by decide +kernel
theorem dL_law_1451 : decode cL_law 1451 = .ok (.invokevirtual 284, 3) := by decide +kernel
theorem dL_law_1454 : decode cL_law 1454 = .ok (.pop, 1) := by decide +kernel
theorem dL_law_1455 : decode cL_law 1455 = .ok (.goto 437, 3) := by decide +kernel
set_option maxRecDepth 100000 in
set_option maxHeartbeats 4000000 in
theorem lg_33 (X : LX p l s m meth c D cy σ0 eda ca ia ad τ q0 x0 sa L xs) (ht : t < 512) (hc0 : c0 ≤ 40000) (hn0 : n0 ≤ 400000) (hI : LI D cy s σ0 eda ia ad τ q0 x0 av qv fd a0 oa od t c0 n0 H locs k N) (hi : i.toInt = 6 * (t : Int)) (hL : 6 * t + 6 ≤ L) (hl : lv_has ls 9 [(5, .int i), (4, .ref od), (3, .ref oa), (2, .ref a0), (1, .ref x0), (0, .ref sa)]) (hE : ∀ (H : Heap) (locs : List Loc) (k N : Nat) (ls : Array Slot), LI D cy s σ0 eda ia ad τ q0 x0 av qv fd a0 oa od (t + 1) c0 n0 H locs k N → lv_has ls 9 [(5, .int i), (4, .ref od), (3, .ref oa), (2, .ref a0), (1, .ref x0), (0, .ref sa)] → W p l e room_1 s m #[Value.ref sa] below meth c H locs k N Q (F0 m 1892 ls [])) : W p l e room_1 s m #[Value.ref sa] below meth c H locs k N Q (F0 m 1445 ls []) := by
  sorry
end LGC
