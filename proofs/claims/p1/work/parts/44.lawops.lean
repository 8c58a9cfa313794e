theorem law_op0 {p : Program} {e : Env} {s : State} {m : MethodId} {below : List Frame} {meth : Method} {c : Code} {l : Launch} (hfl : l.stackTraces = false) {b : Nat} {xs : Nat → Int32} {D : va_G} {cy : Nat → ClassId} {eda ca : Nat} {ia : Nat → Nat} (C0 : LawAt p s m meth c b xs D cy eda ca ia) {am : Nat → Nat} {ad : Nat → Nat} {rw_ : Nat → Nat → Option Nat} {w : va_W} (F : FrC cy ad rw_ w) {oa od : Nat} (hE : LawEnd p l e s m below meth c b (ad 0) (am 0) oa od) : LGoal p l e s m below meth c b D cy am eda w (ad 0) oa od 272 := by
  by_cases ho : xs 4 = 0
  · by_cases g : (((c16 (xs 1)) = 108 ∨ (c16 (xs 1)) = 102 ∨ (c16 (xs 1)) = 104) ∧ (¬ (xs 2) < 0 ∧ ¬ 4 < (xs 2)) ∧ (¬ (xs 3) < 1 ∧ ¬ 5 < (xs 3)) ∧ (¬ (xs 5) < 0 ∧ ¬ 99 < (xs 5)) ∧ ¬ ((c16 (xs 1)) = 108 ∧ 0 < (xs 2)))
    · exact law_make_0b0 hfl C0 F hE g.1 g.2.1 g.2.2.1 g.2.2.2.1 g.2.2.2.2 ho
    · exact law_make_1b0 hfl C0 F hE g ho
  · by_cases g : (((c16 (xs 1)) = 108 ∨ (c16 (xs 1)) = 102 ∨ (c16 (xs 1)) = 104) ∧ (¬ (xs 2) < 0 ∧ ¬ 4 < (xs 2)) ∧ (¬ (xs 3) < 1 ∧ ¬ 5 < (xs 3)) ∧ (¬ (xs 5) < 0 ∧ ¬ 99 < (xs 5)) ∧ ¬ ((c16 (xs 1)) = 108 ∧ 0 < (xs 2)))
    · exact law_make_0b1 hfl C0 F hE g.1 g.2.1 g.2.2.1 g.2.2.2.1 g.2.2.2.2 ho
    · exact law_make_1b1 hfl C0 F hE g ho

theorem law_op1 {p : Program} {e : Env} {s : State} {m : MethodId} {below : List Frame} {meth : Method} {c : Code} {l : Launch} (hfl : l.stackTraces = false) {b : Nat} {xs : Nat → Int32} {D : va_G} {cy : Nat → ClassId} {eda ca : Nat} {ia : Nat → Nat} (C0 : LawAt p s m meth c b xs D cy eda ca ia) {am : Nat → Nat} {ad : Nat → Nat} {rw_ : Nat → Nat → Option Nat} {w : va_W} (F : FrC cy ad rw_ w) {oa od : Nat} (hE : LawEnd p l e s m below meth c b (ad 0) (am 0) oa od) : LGoal p l e s m below meth c b D cy am eda w (ad 0) oa od 394 := by
  by_cases e1 : xs 1 = 0
  · by_cases g : (¬ xs 2 < 1 ∧ ¬ 3 < xs 2) ∧ (¬ xs 4 < 1 ∧ ¬ 8 < xs 4)
    · obtain ⟨j, hj, e2⟩ := my_r13 g.1
      by_cases ho : xs 3 = 0
      · exact law_endpoint_3b0 hfl C0 F hE j hj e1 e2 g.2 ho
      · exact law_endpoint_3b1 hfl C0 F hE j hj e1 e2 g.2 ho
    · by_cases ho : xs 3 = 0
      · exact law_endpoint_2b0 hfl C0 F hE e1 g ho
      · exact law_endpoint_2b1 hfl C0 F hE e1 g ho
  · by_cases ho : xs 3 = 0
    · exact law_endpoint_1b0 hfl C0 F hE e1 ho
    · exact law_endpoint_1b1 hfl C0 F hE e1 ho

theorem law_op2 {p : Program} {e : Env} {s : State} {m : MethodId} {below : List Frame} {meth : Method} {c : Code} {l : Launch} (hfl : l.stackTraces = false) {b : Nat} {xs : Nat → Int32} {D : va_G} {cy : Nat → ClassId} {eda ca : Nat} {ia : Nat → Nat} (C0 : LawAt p s m meth c b xs D cy eda ca ia) {am : Nat → Nat} {ad : Nat → Nat} {rw_ : Nat → Nat → Option Nat} {w : va_W} (F : FrC cy ad rw_ w) {oa od : Nat} (hE : LawEnd p l e s m below meth c b (ad 0) (am 0) oa od) : LGoal p l e s m below meth c b D cy am eda w (ad 0) oa od 502 := by
  by_cases e1 : xs 1 = 0
  · by_cases e2 : xs 2 = 0
    · by_cases h1 : xs 3 < 0
      · exact law_plug_1c hfl C0 F hE e1 e2 (Or.inl h1)
      · by_cases h2 : xs 3 < 4
        · exact law_plug_2 hfl C0 F hE e1 e2 h1 h2
        · exact law_plug_1c hfl C0 F hE e1 e2 (Or.inr (my_nlt4 h2))
    · exact law_plug_1b hfl C0 F hE e1 e2
  · exact law_plug_1a hfl C0 F hE e1

theorem law_op3 {p : Program} {e : Env} {s : State} {m : MethodId} {below : List Frame} {meth : Method} {c : Code} {l : Launch} (hfl : l.stackTraces = false) {b : Nat} {xs : Nat → Int32} {D : va_G} {cy : Nat → ClassId} {eda ca : Nat} {ia : Nat → Nat} (C0 : LawAt p s m meth c b xs D cy eda ca ia) {am : Nat → Nat} {ad : Nat → Nat} {rw_ : Nat → Nat → Option Nat} {w : va_W} (F : FrC cy ad rw_ w) {oa od : Nat} (hE : LawEnd p l e s m below meth c b (ad 0) (am 0) oa od) : LGoal p l e s m below meth c b D cy am eda w (ad 0) oa od 582 := by
  exact law_unplug_1 hfl C0 F hE

theorem law_op4 {p : Program} {e : Env} {s : State} {m : MethodId} {below : List Frame} {meth : Method} {c : Code} {l : Launch} (hfl : l.stackTraces = false) {b : Nat} {xs : Nat → Int32} {D : va_G} {cy : Nat → ClassId} {eda ca : Nat} {ia : Nat → Nat} (C0 : LawAt p s m meth c b xs D cy eda ca ia) {am : Nat → Nat} {ad : Nat → Nat} {rw_ : Nat → Nat → Option Nat} {w : va_W} (F : FrC cy ad rw_ w) {oa od : Nat} (hE : LawEnd p l e s m below meth c b (ad 0) (am 0) oa od) : LGoal p l e s m below meth c b D cy am eda w (ad 0) oa od 638 := by
  by_cases e1 : xs 1 = 0
  · exact law_stateOf_0 hfl C0 F hE e1
  · exact law_stateOf_1 hfl C0 F hE e1

theorem law_op5 {p : Program} {e : Env} {s : State} {m : MethodId} {below : List Frame} {meth : Method} {c : Code} {l : Launch} (hfl : l.stackTraces = false) {b : Nat} {xs : Nat → Int32} {D : va_G} {cy : Nat → ClassId} {eda ca : Nat} {ia : Nat → Nat} (C0 : LawAt p s m meth c b xs D cy eda ca ia) {am : Nat → Nat} {ad : Nat → Nat} {rw_ : Nat → Nat → Option Nat} {w : va_W} (F : FrC cy ad rw_ w) {oa od : Nat} (hE : LawEnd p l e s m below meth c b (ad 0) (am 0) oa od) : LGoal p l e s m below meth c b D cy am eda w (ad 0) oa od 694 := by
  by_cases e1 : xs 1 = 0
  · exact law_hubOf_0 hfl C0 F hE e1
  · exact law_hubOf_1 hfl C0 F hE e1

theorem law_op6 {p : Program} {e : Env} {s : State} {m : MethodId} {below : List Frame} {meth : Method} {c : Code} {l : Launch} (hfl : l.stackTraces = false) {b : Nat} {xs : Nat → Int32} {D : va_G} {cy : Nat → ClassId} {eda ca : Nat} {ia : Nat → Nat} (C0 : LawAt p s m meth c b xs D cy eda ca ia) {am : Nat → Nat} {ad : Nat → Nat} {rw_ : Nat → Nat → Option Nat} {w : va_W} (F : FrC cy ad rw_ w) {oa od : Nat} (hE : LawEnd p l e s m below meth c b (ad 0) (am 0) oa od) : LGoal p l e s m below meth c b D cy am eda w (ad 0) oa od 750 := by
  by_cases e1 : xs 1 = 0
  · exact law_depthOf_0 hfl C0 F hE e1
  · exact law_depthOf_1 hfl C0 F hE e1

theorem law_op7 {p : Program} {e : Env} {s : State} {m : MethodId} {below : List Frame} {meth : Method} {c : Code} {l : Launch} (hfl : l.stackTraces = false) {b : Nat} {xs : Nat → Int32} {D : va_G} {cy : Nat → ClassId} {eda ca : Nat} {ia : Nat → Nat} (C0 : LawAt p s m meth c b xs D cy eda ca ia) {am : Nat → Nat} {ad : Nat → Nat} {rw_ : Nat → Nat → Option Nat} {w : va_W} (F : FrC cy ad rw_ w) {oa od : Nat} (hE : LawEnd p l e s m below meth c b (ad 0) (am 0) oa od) : LGoal p l e s m below meth c b D cy am eda w (ad 0) oa od 806 := by
  by_cases e1 : xs 1 = 0
  · exact law_speedOf_0 hfl C0 F hE e1
  · exact law_speedOf_1 hfl C0 F hE e1

theorem law_op8 {p : Program} {e : Env} {s : State} {m : MethodId} {below : List Frame} {meth : Method} {c : Code} {l : Launch} (hfl : l.stackTraces = false) {b : Nat} {xs : Nat → Int32} {D : va_G} {cy : Nat → ClassId} {eda ca : Nat} {ia : Nat → Nat} (C0 : LawAt p s m meth c b xs D cy eda ca ia) {am : Nat → Nat} {ad : Nat → Nat} {rw_ : Nat → Nat → Option Nat} {w : va_W} (F : FrC cy ad rw_ w) {oa od : Nat} (hE : LawEnd p l e s m below meth c b (ad 0) (am 0) oa od) : LGoal p l e s m below meth c b D cy am eda w (ad 0) oa od 862 := by
  by_cases e1 : xs 1 = 0
  · exact law_translator_2 hfl C0 F hE e1
  · exact law_translator_1 hfl C0 F hE e1

theorem law_op9 {p : Program} {e : Env} {s : State} {m : MethodId} {below : List Frame} {meth : Method} {c : Code} {l : Launch} (hfl : l.stackTraces = false) {b : Nat} {xs : Nat → Int32} {D : va_G} {cy : Nat → ClassId} {eda ca : Nat} {ia : Nat → Nat} (C0 : LawAt p s m meth c b xs D cy eda ca ia) {am : Nat → Nat} {ad : Nat → Nat} {rw_ : Nat → Nat → Option Nat} {w : va_W} (F : FrC cy ad rw_ w) {oa od : Nat} (hE : LawEnd p l e s m below meth c b (ad 0) (am 0) oa od) : LGoal p l e s m below meth c b D cy am eda w (ad 0) oa od 918 := by
  by_cases e1 : xs 1 = 0
  · exact law_addressOf_0 hfl C0 F hE e1
  · exact law_addressOf_1 hfl C0 F hE e1

theorem law_op10 {p : Program} {e : Env} {s : State} {m : MethodId} {below : List Frame} {meth : Method} {c : Code} {l : Launch} (hfl : l.stackTraces = false) {b : Nat} {xs : Nat → Int32} {D : va_G} {cy : Nat → ClassId} {eda ca : Nat} {ia : Nat → Nat} (C0 : LawAt p s m meth c b xs D cy eda ca ia) {am : Nat → Nat} {ad : Nat → Nat} {rw_ : Nat → Nat → Option Nat} {w : va_W} (F : FrC cy ad rw_ w) {oa od : Nat} (hE : LawEnd p l e s m below meth c b (ad 0) (am 0) oa od) : LGoal p l e s m below meth c b D cy am eda w (ad 0) oa od 974 := by
  exact law_look_1 hfl C0 F hE

theorem law_op11 {p : Program} {e : Env} {s : State} {m : MethodId} {below : List Frame} {meth : Method} {c : Code} {l : Launch} (hfl : l.stackTraces = false) {b : Nat} {xs : Nat → Int32} {D : va_G} {cy : Nat → ClassId} {eda ca : Nat} {ia : Nat → Nat} (C0 : LawAt p s m meth c b xs D cy eda ca ia) {am : Nat → Nat} {ad : Nat → Nat} {rw_ : Nat → Nat → Option Nat} {w : va_W} (F : FrC cy ad rw_ w) {oa od : Nat} (hE : LawEnd p l e s m below meth c b (ad 0) (am 0) oa od) : LGoal p l e s m below meth c b D cy am eda w (ad 0) oa od 1018 := by
  by_cases g : (¬ xs 1 < 0 ∧ ¬ 9 < xs 1) ∧ (¬ xs 2 < -1 ∧ ¬ 9 < xs 2)
  · exact law_driver_0 hfl C0 F hE g.1 g.2
  · exact law_driver_1 hfl C0 F hE g

theorem law_op12 {p : Program} {e : Env} {s : State} {m : MethodId} {below : List Frame} {meth : Method} {c : Code} {l : Launch} (hfl : l.stackTraces = false) {b : Nat} {xs : Nat → Int32} {D : va_G} {cy : Nat → ClassId} {eda ca : Nat} {ia : Nat → Nat} (C0 : LawAt p s m meth c b xs D cy eda ca ia) {am : Nat → Nat} {ad : Nat → Nat} {rw_ : Nat → Nat → Option Nat} {w : va_W} (F : FrC cy ad rw_ w) {oa od : Nat} (hE : LawEnd p l e s m below meth c b (ad 0) (am 0) oa od) : LGoal p l e s m below meth c b D cy am eda w (ad 0) oa od 1086 := by
  by_cases e1 : xs 1 = 0
  · exact law_driverOf_0 hfl C0 F hE e1
  · exact law_driverOf_1 hfl C0 F hE e1

theorem law_op13 {p : Program} {e : Env} {s : State} {m : MethodId} {below : List Frame} {meth : Method} {c : Code} {l : Launch} (hfl : l.stackTraces = false) {b : Nat} {xs : Nat → Int32} {D : va_G} {cy : Nat → ClassId} {eda ca : Nat} {ia : Nat → Nat} (C0 : LawAt p s m meth c b xs D cy eda ca ia) {am : Nat → Nat} {ad : Nat → Nat} {rw_ : Nat → Nat → Option Nat} {w : va_W} (F : FrC cy ad rw_ w) {oa od : Nat} (hE : LawEnd p l e s m below meth c b (ad 0) (am 0) oa od) : LGoal p l e s m below meth c b D cy am eda w (ad 0) oa od 1142 := by
  exact law_draw_1 hfl C0 F hE

theorem law_op14 {p : Program} {e : Env} {s : State} {m : MethodId} {below : List Frame} {meth : Method} {c : Code} {l : Launch} (hfl : l.stackTraces = false) {b : Nat} {xs : Nat → Int32} {D : va_G} {cy : Nat → ClassId} {eda ca : Nat} {ia : Nat → Nat} (C0 : LawAt p s m meth c b xs D cy eda ca ia) {am : Nat → Nat} {ad : Nat → Nat} {rw_ : Nat → Nat → Option Nat} {w : va_W} (F : FrC cy ad rw_ w) {oa od : Nat} (hE : LawEnd p l e s m below meth c b (ad 0) (am 0) oa od) : LGoal p l e s m below meth c b D cy am eda w (ad 0) oa od 1210 := by
  exact law_sleep_1 hfl C0 F hE

theorem law_op15 {p : Program} {e : Env} {s : State} {m : MethodId} {below : List Frame} {meth : Method} {c : Code} {l : Launch} (hfl : l.stackTraces = false) {b : Nat} {xs : Nat → Int32} {D : va_G} {cy : Nat → ClassId} {eda ca : Nat} {ia : Nat → Nat} (C0 : LawAt p s m meth c b xs D cy eda ca ia) {am : Nat → Nat} {ad : Nat → Nat} {rw_ : Nat → Nat → Option Nat} {w : va_W} (F : FrC cy ad rw_ w) {oa od : Nat} (hE : LawEnd p l e s m below meth c b (ad 0) (am 0) oa od) : LGoal p l e s m below meth c b D cy am eda w (ad 0) oa od 1266 := by
  by_cases e1 : xs 1 = 0
  · exact law_wake_2 hfl C0 F hE e1
  · exact law_wake_1 hfl C0 F hE e1

theorem law_op16 {p : Program} {e : Env} {s : State} {m : MethodId} {below : List Frame} {meth : Method} {c : Code} {l : Launch} (hfl : l.stackTraces = false) {b : Nat} {xs : Nat → Int32} {D : va_G} {cy : Nat → ClassId} {eda ca : Nat} {ia : Nat → Nat} (C0 : LawAt p s m meth c b xs D cy eda ca ia) {am : Nat → Nat} {ad : Nat → Nat} {rw_ : Nat → Nat → Option Nat} {w : va_W} (F : FrC cy ad rw_ w) {oa od : Nat} (hE : LawEnd p l e s m below meth c b (ad 0) (am 0) oa od) : LGoal p l e s m below meth c b D cy am eda w (ad 0) oa od 1322 := by
  by_cases g : ¬ xs 1 < 0 ∧ ¬ 2047 < xs 1
  · exact law_five_0 hfl C0 F hE g
  · exact law_five_1 hfl C0 F hE g

theorem law_op17 {p : Program} {e : Env} {s : State} {m : MethodId} {below : List Frame} {meth : Method} {c : Code} {l : Launch} (hfl : l.stackTraces = false) {b : Nat} {xs : Nat → Int32} {D : va_G} {cy : Nat → ClassId} {eda ca : Nat} {ia : Nat → Nat} (C0 : LawAt p s m meth c b xs D cy eda ca ia) {am : Nat → Nat} {ad : Nat → Nat} {rw_ : Nat → Nat → Option Nat} {w : va_W} (F : FrC cy ad rw_ w) {oa od : Nat} (hE : LawEnd p l e s m below meth c b (ad 0) (am 0) oa od) : LGoal p l e s m below meth c b D cy am eda w (ad 0) oa od 1378 := by
  by_cases g : ¬ xs 1 < 0 ∧ ¬ 255 < xs 1
  · obtain ⟨k, hk, e1⟩ := my_r0 256 (by decide) (by decide) g
    by_cases h : k ≤ 127
    · exact law_type_0a hfl C0 F hE k h e1
    · exact law_type_0b hfl C0 F hE k (by omega) hk e1
  · exact law_type_1 hfl C0 F hE g

theorem law_op18 {p : Program} {e : Env} {s : State} {m : MethodId} {below : List Frame} {meth : Method} {c : Code} {l : Launch} (hfl : l.stackTraces = false) {b : Nat} {xs : Nat → Int32} {D : va_G} {cy : Nat → ClassId} {eda ca : Nat} {ia : Nat → Nat} (C0 : LawAt p s m meth c b xs D cy eda ca ia) {am : Nat → Nat} {ad : Nat → Nat} {rw_ : Nat → Nat → Option Nat} {w : va_W} (F : FrC cy ad rw_ w) {oa od : Nat} (hE : LawEnd p l e s m below meth c b (ad 0) (am 0) oa od) : LGoal p l e s m below meth c b D cy am eda w (ad 0) oa od 1434 := by
  exact law_wipe hfl C0 F hE

theorem law_op19 {p : Program} {e : Env} {s : State} {m : MethodId} {below : List Frame} {meth : Method} {c : Code} {l : Launch} (hfl : l.stackTraces = false) {b : Nat} {xs : Nat → Int32} {D : va_G} {cy : Nat → ClassId} {eda ca : Nat} {ia : Nat → Nat} (C0 : LawAt p s m meth c b xs D cy eda ca ia) {am : Nat → Nat} {ad : Nat → Nat} {rw_ : Nat → Nat → Option Nat} {w : va_W} (F : FrC cy ad rw_ w) {oa od : Nat} (hE : LawEnd p l e s m below meth c b (ad 0) (am 0) oa od) : LGoal p l e s m below meth c b D cy am eda w (ad 0) oa od 1447 := by
  exact law_sixteen hfl C0 F hE

theorem law_op20 {p : Program} {e : Env} {s : State} {m : MethodId} {below : List Frame} {meth : Method} {c : Code} {l : Launch} (hfl : l.stackTraces = false) {b : Nat} {xs : Nat → Int32} {D : va_G} {cy : Nat → ClassId} {eda ca : Nat} {ia : Nat → Nat} (C0 : LawAt p s m meth c b xs D cy eda ca ia) {am : Nat → Nat} {ad : Nat → Nat} {rw_ : Nat → Nat → Option Nat} {w : va_W} (F : FrC cy ad rw_ w) {oa od : Nat} (hE : LawEnd p l e s m below meth c b (ad 0) (am 0) oa od) : LGoal p l e s m below meth c b D cy am eda w (ad 0) oa od 1460 := by
  exact law_stuffed hfl C0 F hE

theorem law_op21 {p : Program} {e : Env} {s : State} {m : MethodId} {below : List Frame} {meth : Method} {c : Code} {l : Launch} (hfl : l.stackTraces = false) {b : Nat} {xs : Nat → Int32} {D : va_G} {cy : Nat → ClassId} {eda ca : Nat} {ia : Nat → Nat} (C0 : LawAt p s m meth c b xs D cy eda ca ia) {am : Nat → Nat} {ad : Nat → Nat} {rw_ : Nat → Nat → Option Nat} {w : va_W} (F : FrC cy ad rw_ w) {oa od : Nat} (hE : LawEnd p l e s m below meth c b (ad 0) (am 0) oa od) : LGoal p l e s m below meth c b D cy am eda w (ad 0) oa od 1473 := by
  exact law_open_1 hfl C0 F hE

theorem law_op22 {p : Program} {e : Env} {s : State} {m : MethodId} {below : List Frame} {meth : Method} {c : Code} {l : Launch} (hfl : l.stackTraces = false) {b : Nat} {xs : Nat → Int32} {D : va_G} {cy : Nat → ClassId} {eda ca : Nat} {ia : Nat → Nat} (C0 : LawAt p s m meth c b xs D cy eda ca ia) {am : Nat → Nat} {ad : Nat → Nat} {rw_ : Nat → Nat → Option Nat} {w : va_W} (F : FrC cy ad rw_ w) {oa od : Nat} (hE : LawEnd p l e s m below meth c b (ad 0) (am 0) oa od) : LGoal p l e s m below meth c b D cy am eda w (ad 0) oa od 1567 := by
  exact law_close_1 hfl C0 F hE

theorem law_op23 {p : Program} {e : Env} {s : State} {m : MethodId} {below : List Frame} {meth : Method} {c : Code} {l : Launch} (hfl : l.stackTraces = false) {b : Nat} {xs : Nat → Int32} {D : va_G} {cy : Nat → ClassId} {eda ca : Nat} {ia : Nat → Nat} (C0 : LawAt p s m meth c b xs D cy eda ca ia) {am : Nat → Nat} {ad : Nat → Nat} {rw_ : Nat → Nat → Option Nat} {w : va_W} (F : FrC cy ad rw_ w) {oa od : Nat} (hE : LawEnd p l e s m below meth c b (ad 0) (am 0) oa od) : LGoal p l e s m below meth c b D cy am eda w (ad 0) oa od 1623 := by
  exact law_phaseOf_1 hfl C0 F hE

theorem law_op24 {p : Program} {e : Env} {s : State} {m : MethodId} {below : List Frame} {meth : Method} {c : Code} {l : Launch} (hfl : l.stackTraces = false) {b : Nat} {xs : Nat → Int32} {D : va_G} {cy : Nat → ClassId} {eda ca : Nat} {ia : Nat → Nat} (C0 : LawAt p s m meth c b xs D cy eda ca ia) {am : Nat → Nat} {ad : Nat → Nat} {rw_ : Nat → Nat → Option Nat} {w : va_W} (F : FrC cy ad rw_ w) {oa od : Nat} (hE : LawEnd p l e s m below meth c b (ad 0) (am 0) oa od) : LGoal p l e s m below meth c b D cy am eda w (ad 0) oa od 1679 := by
  by_cases g : ¬ xs 1 < 0 ∧ ¬ 7 < xs 1
  · obtain ⟨j, hj, e1⟩ := my_r07 g
    by_cases h1 : xs 2 = -1
    · exact law_reserved_0m hfl C0 F hE j hj e1 h1
    · by_cases h2 : xs 2 = 0
      · exact law_reserved_00 hfl C0 F hE j hj e1 h2
      · exact law_reserved_2 hfl C0 F hE j hj e1 h1 h2
  · exact law_reserved_1 hfl C0 F hE g

theorem law_op25 {p : Program} {e : Env} {s : State} {m : MethodId} {below : List Frame} {meth : Method} {c : Code} {l : Launch} (hfl : l.stackTraces = false) {b : Nat} {xs : Nat → Int32} {D : va_G} {cy : Nat → ClassId} {eda ca : Nat} {ia : Nat → Nat} (C0 : LawAt p s m meth c b xs D cy eda ca ia) {am : Nat → Nat} {ad : Nat → Nat} {rw_ : Nat → Nat → Option Nat} {w : va_W} (F : FrC cy ad rw_ w) {oa od : Nat} (hE : LawEnd p l e s m below meth c b (ad 0) (am 0) oa od) : LGoal p l e s m below meth c b D cy am eda w (ad 0) oa od 1747 := by
  exact law_send_1 hfl C0 F hE

theorem law_op26 {p : Program} {e : Env} {s : State} {m : MethodId} {below : List Frame} {meth : Method} {c : Code} {l : Launch} (hfl : l.stackTraces = false) {b : Nat} {xs : Nat → Int32} {D : va_G} {cy : Nat → ClassId} {eda ca : Nat} {ia : Nat → Nat} (C0 : LawAt p s m meth c b xs D cy eda ca ia) {am : Nat → Nat} {ad : Nat → Nat} {rw_ : Nat → Nat → Option Nat} {w : va_W} (F : FrC cy ad rw_ w) {oa od : Nat} (hE : LawEnd p l e s m below meth c b (ad 0) (am 0) oa od) : LGoal p l e s m below meth c b D cy am eda w (ad 0) oa od 1803 := by
  exact law_ask_1 hfl C0 F hE

theorem law_op27 {p : Program} {e : Env} {s : State} {m : MethodId} {below : List Frame} {meth : Method} {c : Code} {l : Launch} (hfl : l.stackTraces = false) {b : Nat} {xs : Nat → Int32} {D : va_G} {cy : Nat → ClassId} {eda ca : Nat} {ia : Nat → Nat} (C0 : LawAt p s m meth c b xs D cy eda ca ia) {am : Nat → Nat} {ad : Nat → Nat} {rw_ : Nat → Nat → Option Nat} {w : va_W} (F : FrC cy ad rw_ w) {oa od : Nat} (hE : LawEnd p l e s m below meth c b (ad 0) (am 0) oa od) : LGoal p l e s m below meth c b D cy am eda w (ad 0) oa od 1871 := by
  exact law_ring_1 hfl C0 F hE

theorem law_op28 {p : Program} {e : Env} {s : State} {m : MethodId} {below : List Frame} {meth : Method} {c : Code} {l : Launch} (hfl : l.stackTraces = false) {b : Nat} {xs : Nat → Int32} {D : va_G} {cy : Nat → ClassId} {eda ca : Nat} {ia : Nat → Nat} (C0 : LawAt p s m meth c b xs D cy eda ca ia) {am : Nat → Nat} {ad : Nat → Nat} {rw_ : Nat → Nat → Option Nat} {w : va_W} (F : FrC cy ad rw_ w) {oa od : Nat} (hE : LawEnd p l e s m below meth c b (ad 0) (am 0) oa od) : LGoal p l e s m below meth c b D cy am eda w (ad 0) oa od 1927 := by
  exact law_isHalted_1 hfl C0 F hE

theorem law_op29 {p : Program} {e : Env} {s : State} {m : MethodId} {below : List Frame} {meth : Method} {c : Code} {l : Launch} (hfl : l.stackTraces = false) {b : Nat} {xs : Nat → Int32} {D : va_G} {cy : Nat → ClassId} {eda ca : Nat} {ia : Nat → Nat} (C0 : LawAt p s m meth c b xs D cy eda ca ia) {am : Nat → Nat} {ad : Nat → Nat} {rw_ : Nat → Nat → Option Nat} {w : va_W} (F : FrC cy ad rw_ w) {oa od : Nat} (hE : LawEnd p l e s m below meth c b (ad 0) (am 0) oa od) : LGoal p l e s m below meth c b D cy am eda w (ad 0) oa od 1990 := by
  exact law_clear_1 hfl C0 F hE

theorem law_op30 {p : Program} {e : Env} {s : State} {m : MethodId} {below : List Frame} {meth : Method} {c : Code} {l : Launch} (hfl : l.stackTraces = false) {b : Nat} {xs : Nat → Int32} {D : va_G} {cy : Nat → ClassId} {eda ca : Nat} {ia : Nat → Nat} (C0 : LawAt p s m meth c b xs D cy eda ca ia) {am : Nat → Nat} {ad : Nat → Nat} {rw_ : Nat → Nat → Option Nat} {w : va_W} (F : FrC cy ad rw_ w) {oa od : Nat} (hE : LawEnd p l e s m below meth c b (ad 0) (am 0) oa od) : LGoal p l e s m below meth c b D cy am eda w (ad 0) oa od 2046 := by
  exact law_cancel_1 hfl C0 F hE

theorem law_op31 {p : Program} {e : Env} {s : State} {m : MethodId} {below : List Frame} {meth : Method} {c : Code} {l : Launch} (hfl : l.stackTraces = false) {b : Nat} {xs : Nat → Int32} {D : va_G} {cy : Nat → ClassId} {eda ca : Nat} {ia : Nat → Nat} (C0 : LawAt p s m meth c b xs D cy eda ca ia) {am : Nat → Nat} {ad : Nat → Nat} {rw_ : Nat → Nat → Option Nat} {w : va_W} (F : FrC cy ad rw_ w) {oa od : Nat} (hE : LawEnd p l e s m below meth c b (ad 0) (am 0) oa od) : LGoal p l e s m below meth c b D cy am eda w (ad 0) oa od 2102 := by
  exact law_load_1 hfl C0 F hE

theorem law_op32 {p : Program} {e : Env} {s : State} {m : MethodId} {below : List Frame} {meth : Method} {c : Code} {l : Launch} (hfl : l.stackTraces = false) {b : Nat} {xs : Nat → Int32} {D : va_G} {cy : Nat → ClassId} {eda ca : Nat} {ia : Nat → Nat} (C0 : LawAt p s m meth c b xs D cy eda ca ia) {am : Nat → Nat} {ad : Nat → Nat} {rw_ : Nat → Nat → Option Nat} {w : va_W} (F : FrC cy ad rw_ w) {oa od : Nat} (hE : LawEnd p l e s m below meth c b (ad 0) (am 0) oa od) : LGoal p l e s m below meth c b D cy am eda w (ad 0) oa od 2170 := by
  exact law_fault_1 hfl C0 F hE

theorem law_op33 {p : Program} {e : Env} {s : State} {m : MethodId} {below : List Frame} {meth : Method} {c : Code} {l : Launch} (hfl : l.stackTraces = false) {b : Nat} {xs : Nat → Int32} {D : va_G} {cy : Nat → ClassId} {eda ca : Nat} {ia : Nat → Nat} (C0 : LawAt p s m meth c b xs D cy eda ca ia) {am : Nat → Nat} {ad : Nat → Nat} {rw_ : Nat → Nat → Option Nat} {w : va_W} (F : FrC cy ad rw_ w) {oa od : Nat} (hE : LawEnd p l e s m below meth c b (ad 0) (am 0) oa od) : LGoal p l e s m below meth c b D cy am eda w (ad 0) oa od 2264 := by
  exact law_frame hfl C0 F hE

theorem law_op34 {p : Program} {e : Env} {s : State} {m : MethodId} {below : List Frame} {meth : Method} {c : Code} {l : Launch} (hfl : l.stackTraces = false) {b : Nat} {xs : Nat → Int32} {D : va_G} {cy : Nat → ClassId} {eda ca : Nat} {ia : Nat → Nat} (C0 : LawAt p s m meth c b xs D cy eda ca ia) {am : Nat → Nat} {ad : Nat → Nat} {rw_ : Nat → Nat → Option Nat} {w : va_W} (F : FrC cy ad rw_ w) {oa od : Nat} (hE : LawEnd p l e s m below meth c b (ad 0) (am 0) oa od) : LGoal p l e s m below meth c b D cy am eda w (ad 0) oa od 2277 := by
  exact law_frames hfl C0 F hE

theorem law_op35 {p : Program} {e : Env} {s : State} {m : MethodId} {below : List Frame} {meth : Method} {c : Code} {l : Launch} (hfl : l.stackTraces = false) {b : Nat} {xs : Nat → Int32} {D : va_G} {cy : Nat → ClassId} {eda ca : Nat} {ia : Nat → Nat} (C0 : LawAt p s m meth c b xs D cy eda ca ia) {am : Nat → Nat} {ad : Nat → Nat} {rw_ : Nat → Nat → Option Nat} {w : va_W} (F : FrC cy ad rw_ w) {oa od : Nat} (hE : LawEnd p l e s m below meth c b (ad 0) (am 0) oa od) : LGoal p l e s m below meth c b D cy am eda w (ad 0) oa od 2290 := by
  by_cases h1 : xs 1 = -1
  · exact law_left_2a hfl C0 F hE h1
  · by_cases h2 : xs 1 = 0
    · exact law_left_2b hfl C0 F hE h2
    · exact law_left_1 hfl C0 F hE h1 h2

theorem law_op36 {p : Program} {e : Env} {s : State} {m : MethodId} {below : List Frame} {meth : Method} {c : Code} {l : Launch} (hfl : l.stackTraces = false) {b : Nat} {xs : Nat → Int32} {D : va_G} {cy : Nat → ClassId} {eda ca : Nat} {ia : Nat → Nat} (C0 : LawAt p s m meth c b xs D cy eda ca ia) {am : Nat → Nat} {ad : Nat → Nat} {rw_ : Nat → Nat → Option Nat} {w : va_W} (F : FrC cy ad rw_ w) {oa od : Nat} (hE : LawEnd p l e s m below meth c b (ad 0) (am 0) oa od) : LGoal p l e s m below meth c b D cy am eda w (ad 0) oa od 2346 := by
  exact law_events hfl C0 F hE

theorem law_op37 {p : Program} {e : Env} {s : State} {m : MethodId} {below : List Frame} {meth : Method} {c : Code} {l : Launch} (hfl : l.stackTraces = false) {b : Nat} {xs : Nat → Int32} {D : va_G} {cy : Nat → ClassId} {eda ca : Nat} {ia : Nat → Nat} (C0 : LawAt p s m meth c b xs D cy eda ca ia) {am : Nat → Nat} {ad : Nat → Nat} {rw_ : Nat → Nat → Option Nat} {w : va_W} (F : FrC cy ad rw_ w) {oa od : Nat} (hE : LawEnd p l e s m below meth c b (ad 0) (am 0) oa od) : LGoal p l e s m below meth c b D cy am eda w (ad 0) oa od 2359 := by
  exact law_event_1 hfl C0 F hE

theorem law_op38 {p : Program} {e : Env} {s : State} {m : MethodId} {below : List Frame} {meth : Method} {c : Code} {l : Launch} (hfl : l.stackTraces = false) {b : Nat} {xs : Nat → Int32} {D : va_G} {cy : Nat → ClassId} {eda ca : Nat} {ia : Nat → Nat} (C0 : LawAt p s m meth c b xs D cy eda ca ia) {am : Nat → Nat} {ad : Nat → Nat} {rw_ : Nat → Nat → Option Nat} {w : va_W} (F : FrC cy ad rw_ w) {oa od : Nat} (hE : LawEnd p l e s m below meth c b (ad 0) (am 0) oa od) : LGoal p l e s m below meth c b D cy am eda w (ad 0) oa od 2403 := by
  exact law_eventPipe_1 hfl C0 F hE

theorem law_op39 {p : Program} {e : Env} {s : State} {m : MethodId} {below : List Frame} {meth : Method} {c : Code} {l : Launch} (hfl : l.stackTraces = false) {b : Nat} {xs : Nat → Int32} {D : va_G} {cy : Nat → ClassId} {eda ca : Nat} {ia : Nat → Nat} (C0 : LawAt p s m meth c b xs D cy eda ca ia) {am : Nat → Nat} {ad : Nat → Nat} {rw_ : Nat → Nat → Option Nat} {w : va_W} (F : FrC cy ad rw_ w) {oa od : Nat} (hE : LawEnd p l e s m below meth c b (ad 0) (am 0) oa od) : LGoal p l e s m below meth c b D cy am eda w (ad 0) oa od 2447 := by
  exact law_eventBytes_1 hfl C0 F hE

theorem law_op40 {p : Program} {e : Env} {s : State} {m : MethodId} {below : List Frame} {meth : Method} {c : Code} {l : Launch} (hfl : l.stackTraces = false) {b : Nat} {xs : Nat → Int32} {D : va_G} {cy : Nat → ClassId} {eda ca : Nat} {ia : Nat → Nat} (C0 : LawAt p s m meth c b xs D cy eda ca ia) {am : Nat → Nat} {ad : Nat → Nat} {rw_ : Nat → Nat → Option Nat} {w : va_W} (F : FrC cy ad rw_ w) {oa od : Nat} (hE : LawEnd p l e s m below meth c b (ad 0) (am 0) oa od) : LGoal p l e s m below meth c b D cy am eda w (ad 0) oa od 2491 := by
  exact law_missed hfl C0 F hE

theorem law_op41 {p : Program} {e : Env} {s : State} {m : MethodId} {below : List Frame} {meth : Method} {c : Code} {l : Launch} (hfl : l.stackTraces = false) {b : Nat} {xs : Nat → Int32} {D : va_G} {cy : Nat → ClassId} {eda ca : Nat} {ia : Nat → Nat} (C0 : LawAt p s m meth c b xs D cy eda ca ia) {am : Nat → Nat} {ad : Nat → Nat} {rw_ : Nat → Nat → Option Nat} {w : va_W} (F : FrC cy ad rw_ w) {oa od : Nat} (hE : LawEnd p l e s m below meth c b (ad 0) (am 0) oa od) : LGoal p l e s m below meth c b D cy am eda w (ad 0) oa od 2504 := by
  exact law_taken_1 hfl C0 F hE

theorem law_op42 {p : Program} {e : Env} {s : State} {m : MethodId} {below : List Frame} {meth : Method} {c : Code} {l : Launch} (hfl : l.stackTraces = false) {b : Nat} {xs : Nat → Int32} {D : va_G} {cy : Nat → ClassId} {eda ca : Nat} {ia : Nat → Nat} (C0 : LawAt p s m meth c b xs D cy eda ca ia) {am : Nat → Nat} {ad : Nat → Nat} {rw_ : Nat → Nat → Option Nat} {w : va_W} (F : FrC cy ad rw_ w) {oa od : Nat} (hE : LawEnd p l e s m below meth c b (ad 0) (am 0) oa od) : LGoal p l e s m below meth c b D cy am eda w (ad 0) oa od 2572 := by
  exact law_takenAt_1 hfl C0 F hE

theorem law_op43 {p : Program} {e : Env} {s : State} {m : MethodId} {below : List Frame} {meth : Method} {c : Code} {l : Launch} (hfl : l.stackTraces = false) {b : Nat} {xs : Nat → Int32} {D : va_G} {cy : Nat → ClassId} {eda ca : Nat} {ia : Nat → Nat} (C0 : LawAt p s m meth c b xs D cy eda ca ia) {am : Nat → Nat} {ad : Nat → Nat} {rw_ : Nat → Nat → Option Nat} {w : va_W} (F : FrC cy ad rw_ w) {oa od : Nat} (hE : LawEnd p l e s m below meth c b (ad 0) (am 0) oa od) : LGoal p l e s m below meth c b D cy am eda w (ad 0) oa od 2652 := by
  exact law_waiting_1 hfl C0 F hE

theorem law_op44 {p : Program} {e : Env} {s : State} {m : MethodId} {below : List Frame} {meth : Method} {c : Code} {l : Launch} (hfl : l.stackTraces = false) {b : Nat} {xs : Nat → Int32} {D : va_G} {cy : Nat → ClassId} {eda ca : Nat} {ia : Nat → Nat} (C0 : LawAt p s m meth c b xs D cy eda ca ia) {am : Nat → Nat} {ad : Nat → Nat} {rw_ : Nat → Nat → Option Nat} {w : va_W} (F : FrC cy ad rw_ w) {oa od : Nat} (hE : LawEnd p l e s m below meth c b (ad 0) (am 0) oa od) : LGoal p l e s m below meth c b D cy am eda w (ad 0) oa od 2720 := by
  exact law_got hfl C0 F hE

theorem law_op45 {p : Program} {e : Env} {s : State} {m : MethodId} {below : List Frame} {meth : Method} {c : Code} {l : Launch} (hfl : l.stackTraces = false) {b : Nat} {xs : Nat → Int32} {D : va_G} {cy : Nat → ClassId} {eda ca : Nat} {ia : Nat → Nat} (C0 : LawAt p s m meth c b xs D cy eda ca ia) {am : Nat → Nat} {ad : Nat → Nat} {rw_ : Nat → Nat → Option Nat} {w : va_W} (F : FrC cy ad rw_ w) {oa od : Nat} (hE : LawEnd p l e s m below meth c b (ad 0) (am 0) oa od) : LGoal p l e s m below meth c b D cy am eda w (ad 0) oa od 2733 := by
  exact law_gotAt_1 hfl C0 F hE

theorem law_op46 {p : Program} {e : Env} {s : State} {m : MethodId} {below : List Frame} {meth : Method} {c : Code} {l : Launch} (hfl : l.stackTraces = false) {b : Nat} {xs : Nat → Int32} {D : va_G} {cy : Nat → ClassId} {eda ca : Nat} {ia : Nat → Nat} (C0 : LawAt p s m meth c b xs D cy eda ca ia) {am : Nat → Nat} {ad : Nat → Nat} {rw_ : Nat → Nat → Option Nat} {w : va_W} (F : FrC cy ad rw_ w) {oa od : Nat} (hE : LawEnd p l e s m below meth c b (ad 0) (am 0) oa od) : LGoal p l e s m below meth c b D cy am eda w (ad 0) oa od 2789 := by
  by_cases h1 : c16 (xs 1) = 116
  · exact law_packets_0t hfl C0 F hE h1
  · by_cases h2 : c16 (xs 1) = 100
    · exact law_packets_0d hfl C0 F hE h2
    · by_cases h3 : c16 (xs 1) = 104
      · exact law_packets_0h hfl C0 F hE h3
      · exact law_packets_1 hfl C0 F hE h1 h2 h3

theorem law_op47 {p : Program} {e : Env} {s : State} {m : MethodId} {below : List Frame} {meth : Method} {c : Code} {l : Launch} (hfl : l.stackTraces = false) {b : Nat} {xs : Nat → Int32} {D : va_G} {cy : Nat → ClassId} {eda ca : Nat} {ia : Nat → Nat} (C0 : LawAt p s m meth c b xs D cy eda ca ia) {am : Nat → Nat} {ad : Nat → Nat} {rw_ : Nat → Nat → Option Nat} {w : va_W} (F : FrC cy ad rw_ w) {oa od : Nat} (hE : LawEnd p l e s m below meth c b (ad 0) (am 0) oa od) : LGoal p l e s m below meth c b D cy am eda w (ad 0) oa od 2847 := by
  by_cases e1 : xs 1 = 0
  · exact law_blame_0 hfl C0 F hE e1
  · exact law_blame_1 hfl C0 F hE e1

theorem law_op48 {p : Program} {e : Env} {s : State} {m : MethodId} {below : List Frame} {meth : Method} {c : Code} {l : Launch} (hfl : l.stackTraces = false) {b : Nat} {xs : Nat → Int32} {D : va_G} {cy : Nat → ClassId} {eda ca : Nat} {ia : Nat → Nat} (C0 : LawAt p s m meth c b xs D cy eda ca ia) {am : Nat → Nat} {ad : Nat → Nat} {rw_ : Nat → Nat → Option Nat} {w : va_W} (F : FrC cy ad rw_ w) {oa od : Nat} (hE : LawEnd p l e s m below meth c b (ad 0) (am 0) oa od) : LGoal p l e s m below meth c b D cy am eda w (ad 0) oa od 2903 := by
  exact law_causeOf_1 hfl C0 F hE

theorem law_op49 {p : Program} {e : Env} {s : State} {m : MethodId} {below : List Frame} {meth : Method} {c : Code} {l : Launch} (hfl : l.stackTraces = false) {b : Nat} {xs : Nat → Int32} {D : va_G} {cy : Nat → ClassId} {eda ca : Nat} {ia : Nat → Nat} (C0 : LawAt p s m meth c b xs D cy eda ca ia) {am : Nat → Nat} {ad : Nat → Nat} {rw_ : Nat → Nat → Option Nat} {w : va_W} (F : FrC cy ad rw_ w) {oa od : Nat} (hE : LawEnd p l e s m below meth c b (ad 0) (am 0) oa od) : LGoal p l e s m below meth c b D cy am eda w (ad 0) oa od 2959 := by
  exact law_busyShare_1 hfl C0 F hE

theorem law_op50 {p : Program} {e : Env} {s : State} {m : MethodId} {below : List Frame} {meth : Method} {c : Code} {l : Launch} (hfl : l.stackTraces = false) {b : Nat} {xs : Nat → Int32} {D : va_G} {cy : Nat → ClassId} {eda ca : Nat} {ia : Nat → Nat} (C0 : LawAt p s m meth c b xs D cy eda ca ia) {am : Nat → Nat} {ad : Nat → Nat} {rw_ : Nat → Nat → Option Nat} {w : va_W} (F : FrC cy ad rw_ w) {oa od : Nat} (hE : LawEnd p l e s m below meth c b (ad 0) (am 0) oa od) : LGoal p l e s m below meth c b D cy am eda w (ad 0) oa od 3025 := by
  exact law_meanBytes_1 hfl C0 F hE

theorem law_op51 {p : Program} {e : Env} {s : State} {m : MethodId} {below : List Frame} {meth : Method} {c : Code} {l : Launch} (hfl : l.stackTraces = false) {b : Nat} {xs : Nat → Int32} {D : va_G} {cy : Nat → ClassId} {eda ca : Nat} {ia : Nat → Nat} (C0 : LawAt p s m meth c b xs D cy eda ca ia) {am : Nat → Nat} {ad : Nat → Nat} {rw_ : Nat → Nat → Option Nat} {w : va_W} (F : FrC cy ad rw_ w) {oa od : Nat} (hE : LawEnd p l e s m below meth c b (ad 0) (am 0) oa od) : LGoal p l e s m below meth c b D cy am eda w (ad 0) oa od 3090 := by
  exact law_checksum hfl C0 F hE

theorem law_op52 {p : Program} {e : Env} {s : State} {m : MethodId} {below : List Frame} {meth : Method} {c : Code} {l : Launch} (hfl : l.stackTraces = false) {b : Nat} {xs : Nat → Int32} {D : va_G} {cy : Nat → ClassId} {eda ca : Nat} {ia : Nat → Nat} (C0 : LawAt p s m meth c b xs D cy eda ca ia) {am : Nat → Nat} {ad : Nat → Nat} {rw_ : Nat → Nat → Option Nat} {w : va_W} (F : FrC cy ad rw_ w) {oa od : Nat} (hE : LawEnd p l e s m below meth c b (ad 0) (am 0) oa od) : LGoal p l e s m below meth c b D cy am eda w (ad 0) oa od 3104 := by
  exact law_isSound hfl C0 F hE
