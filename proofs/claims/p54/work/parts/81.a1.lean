section VWB
def vK : List VK := [(0, 14, 0, [av_0, av_1, av_2, av_2, av_3, av_4, av_5, av_6, av_7, av_8, av_9, av_10, av_11]), (0, 5, 0, [av_12, av_6, av_13, av_6]), (0, 5, 0, [av_12, av_6, av_14, av_6]), (0, 5, 0, [av_12, av_6, av_6, av_6]), (0, 6, 0, [av_15, av_16, av_6, av_6, av_17, av_18, av_6, av_16, av_19, av_6, av_6, av_16, av_6, av_6, av_6, av_6, av_6, av_17, av_20, av_21]), (0, 7, 0, [av_17, av_17, av_17, av_3, av_6, av_22, av_6, av_23, av_20]), (0, 9, 0, [av_16, av_6]), (0, 10, 0, [av_5, av_19, av_24, av_16, av_6, av_6, av_6, av_6, av_17, av_16, av_17, av_25, av_6, av_26]), (0, 12, 0, [av_27, av_6, av_6, av_17, av_17, av_17]), (0, 13, 0, [av_28, av_29, av_6, av_27, av_6]), (1, 0, 32, [av_6]), (1, 0, 16, [av_6]), (1, 0, 8, [av_6]), (1, 0, 128, [av_6]), (1, 1, 8, [av_16]), (2, 4, 16, [av_30]), (2, 5, 3, [av_31]), (2, 6, 12, [av_32]), (2, 7, 4, [av_33]), (0, 8, 0, [av_34, av_2, av_2, av_6, av_6, av_6, av_6, av_6, av_6, av_6]), (0, 11, 0, [av_6, av_6, av_6]), (1, 0, 8, [av_6])]
def vSG : List Nat := [0, 1, 2, 9, 19, 20]
theorem vK_ty (cy : Nat → ClassId) : ∀ (d ti N : Nat) (els : List VA), vK[d]? = some (2, ti, N, els) → ∃ C, (tyL cy)[ti]? = some (cy ti, .object C) := by
  intro d ti N els h
  rcases d with _ | _ | _ | _ | _ | _ | _ | _ | _ | _ | _ | _ | _ | _ | _ | _ | _ | _ | _ | _ | _ | _ | d
  · cases h
  · cases h
  · cases h
  · cases h
  · cases h
  · cases h
  · cases h
  · cases h
  · cases h
  · cases h
  · cases h
  · cases h
  · cases h
  · cases h
  · cases h
  · cases h; exact ⟨_, rfl⟩
  · cases h; exact ⟨_, rfl⟩
  · cases h; exact ⟨_, rfl⟩
  · cases h; exact ⟨_, rfl⟩
  · cases h
  · cases h
  · cases h
  · cases h
theorem vK_200 : ∀ (d x : Nat) (fs : List VA), ¬ (vK[d]? = some (0, 200, x, fs)) := by
  intro d x fs h
  have h1 : vK.all (fun k => !((k.1 == 0) && (k.2.1 == 200))) = true := by decide +kernel
  have h2 := List.all_eq_true.mp h1 _ (List.mem_of_getElem? h)
  simp at h2
def vFT_X0 : List (Nat × Nat × Nat) := [(9, 5, 0), (15, 5, 1), (19, 5, 2), (22, 5, 3)]
def vCT_X0 : List (Nat × Int) := []
def vC2_X0 : List (Nat × Int) := []
theorem vfg_X0 {p : Program} {l : Launch} {e : Env} {R : Room} {s : State} {m : MethodId} {args : Array Value} {below : List Frame} {meth : Method} {c : Code} {Q : State → Prop} {cc : ByteArray} {D : va_G} {cy : Nat → ClassId} {nL : Nat} {W0 : Cond} (S : CallFix p m c cc nL s args (W0 :: vWall) RX0) (hK : va_K D vwCl (tyL cy) s) (hN : NL s) : ∀ (i ci k : Nat), (i, ci, k) ∈ vFT_X0 → vi_Fg p l e R s m args below meth c Q cc D i ci k := by
  obtain ⟨hx, hb, -, hown, hts⟩ := S
  have key : ∀ q ∈ vFT_X0, vi_Fg p l e R s m args below meth c Q cc D q.1 q.2.1 q.2.2 := by
    refine List.forall_mem_cons.mpr ⟨vi_FgP (T := TX0) (N := 4) (Ts := W0 :: vWall) hx hb hts hown hK (fun w h => List.mem_cons_of_mem _ (vmu_0 w h)) rfl (by decide) (List.mem_cons_of_mem _ (vm_0 _ (List.mem_of_getElem? (i := 5) rfl))) rfl, ?_⟩
    refine List.forall_mem_cons.mpr ⟨vi_FgP (T := TX0) (N := 4) (Ts := W0 :: vWall) hx hb hts hown hK (fun w h => List.mem_cons_of_mem _ (vmu_0 w h)) rfl (by decide) (List.mem_cons_of_mem _ (vm_0 _ (List.mem_of_getElem? (i := 7) rfl))) rfl, ?_⟩
    refine List.forall_mem_cons.mpr ⟨vi_FgP (T := TX0) (N := 4) (Ts := W0 :: vWall) hx hb hts hown hK (fun w h => List.mem_cons_of_mem _ (vmu_0 w h)) rfl (by decide) (List.mem_cons_of_mem _ (vm_0 _ (List.mem_of_getElem? (i := 8) rfl))) rfl, ?_⟩
    refine List.forall_mem_cons.mpr ⟨vi_FgP (T := TX0) (N := 4) (Ts := W0 :: vWall) hx hb hts hown hK (fun w h => List.mem_cons_of_mem _ (vmu_0 w h)) rfl (by decide) (List.mem_cons_of_mem _ (vm_0 _ (List.mem_of_getElem? (i := 9) rfl))) rfl, ?_⟩
    exact fun q hq => by cases hq
  exact fun i ci k h => key (i, ci, k) h
theorem vfp_X0_15_5_1 {p : Program} {l : Launch} {e : Env} {R : Room} {s : State} {m : MethodId} {args : Array Value} {below : List Frame} {meth : Method} {c : Code} {Q : State → Prop} {cc : ByteArray} {D : va_G} {cy : Nat → ClassId} {nL : Nat} {W0 : Cond} {A0 : Nat → Prop} {H0 : Heap} {v : Value} (S : CallFix p m c cc nL s args (W0 :: vWall) RX0) (hK : va_K D vwCl (tyL cy) s) (hN : NL s) (hv : narrow (tyX0 1) v = v ∧ fits (tyX0 1) v = true) : vi_Fp p l e R s m args below meth c Q cc D A0 H0 15 5 1 v := by
  obtain ⟨hx, hb, -, hown, hts⟩ := S
  exact vi_FpP (ty0 := tyX0) (T := TX0) (N := 4) (Ts := W0 :: vWall) hx hb hts hown hK (fun w h => List.mem_cons_of_mem _ (vmu_0 w h)) rfl (by decide) tyX0_ok nmX0 rfl (List.mem_cons_of_mem _ (vm_0 _ (List.mem_of_getElem? (i := 7) rfl))) rfl hv
theorem vfp_X0_19_5_2 {p : Program} {l : Launch} {e : Env} {R : Room} {s : State} {m : MethodId} {args : Array Value} {below : List Frame} {meth : Method} {c : Code} {Q : State → Prop} {cc : ByteArray} {D : va_G} {cy : Nat → ClassId} {nL : Nat} {W0 : Cond} {A0 : Nat → Prop} {H0 : Heap} {v : Value} (S : CallFix p m c cc nL s args (W0 :: vWall) RX0) (hK : va_K D vwCl (tyL cy) s) (hN : NL s) (hv : narrow (tyX0 2) v = v ∧ fits (tyX0 2) v = true) : vi_Fp p l e R s m args below meth c Q cc D A0 H0 19 5 2 v := by
  obtain ⟨hx, hb, -, hown, hts⟩ := S
  exact vi_FpP (ty0 := tyX0) (T := TX0) (N := 4) (Ts := W0 :: vWall) hx hb hts hown hK (fun w h => List.mem_cons_of_mem _ (vmu_0 w h)) rfl (by decide) tyX0_ok nmX0 rfl (List.mem_cons_of_mem _ (vm_0 _ (List.mem_of_getElem? (i := 8) rfl))) rfl hv
theorem vfp_X0_22_5_3 {p : Program} {l : Launch} {e : Env} {R : Room} {s : State} {m : MethodId} {args : Array Value} {below : List Frame} {meth : Method} {c : Code} {Q : State → Prop} {cc : ByteArray} {D : va_G} {cy : Nat → ClassId} {nL : Nat} {W0 : Cond} {A0 : Nat → Prop} {H0 : Heap} {v : Value} (S : CallFix p m c cc nL s args (W0 :: vWall) RX0) (hK : va_K D vwCl (tyL cy) s) (hN : NL s) (hv : narrow (tyX0 3) v = v ∧ fits (tyX0 3) v = true) : vi_Fp p l e R s m args below meth c Q cc D A0 H0 22 5 3 v := by
  obtain ⟨hx, hb, -, hown, hts⟩ := S
  exact vi_FpP (ty0 := tyX0) (T := TX0) (N := 4) (Ts := W0 :: vWall) hx hb hts hown hK (fun w h => List.mem_cons_of_mem _ (vmu_0 w h)) rfl (by decide) tyX0_ok nmX0 rfl (List.mem_cons_of_mem _ (vm_0 _ (List.mem_of_getElem? (i := 9) rfl))) rfl hv
theorem vct_X0 {p : Program} {s : State} {m : MethodId} {args : Array Value} {c : Code} {cc : ByteArray} {nL : Nat} {W0 : Cond} (S : CallFix p m c cc nL s args (W0 :: vWall) RX0) : ∀ (i : Nat) (v : Int), (i, v) ∈ vCT_X0 → (Jvm.Cond.constant RX0 i (Int32.ofInt v)).before args s = true := by
  obtain ⟨-, -, -, -, hts⟩ := S
  have key : ∀ q ∈ vCT_X0, (Jvm.Cond.constant RX0 q.1 (Int32.ofInt q.2)).before args s = true := by
    exact fun q hq => by cases hq
  exact fun i v h => key (i, v) h
theorem vc2_X0 {p : Program} {s : State} {m : MethodId} {args : Array Value} {c : Code} {cc : ByteArray} {nL : Nat} {W0 : Cond} (S : CallFix p m c cc nL s args (W0 :: vWall) RX0) : ∀ (i : Nat) (v : Int), (i, v) ∈ vC2_X0 → ∃ x : Int64, (Jvm.Cond.constantLong RX0 i x).before args s = true := by
  obtain ⟨-, -, -, -, hts⟩ := S
  have key : ∀ q ∈ vC2_X0, ∃ x : Int64, (Jvm.Cond.constantLong RX0 q.1 x).before args s = true := by
    exact fun q hq => by cases hq
  exact fun i v h => key (i, v) h
def vFT_X1 : List (Nat × Nat × Nat) := [(9, 6, 1), (40, 6, 19), (48, 7, 0)]
def vCT_X1 : List (Nat × Int) := []
def vC2_X1 : List (Nat × Int) := []
theorem vfg_X1 {p : Program} {l : Launch} {e : Env} {R : Room} {s : State} {m : MethodId} {args : Array Value} {below : List Frame} {meth : Method} {c : Code} {Q : State → Prop} {cc : ByteArray} {D : va_G} {cy : Nat → ClassId} {nL : Nat} {W0 : Cond} (S : CallFix p m c cc nL s args (W0 :: vWall) RX1) (hK : va_K D vwCl (tyL cy) s) (hN : NL s) : ∀ (i ci k : Nat), (i, ci, k) ∈ vFT_X1 → vi_Fg p l e R s m args below meth c Q cc D i ci k := by
  obtain ⟨hx, hb, -, hown, hts⟩ := S
  have key : ∀ q ∈ vFT_X1, vi_Fg p l e R s m args below meth c Q cc D q.1 q.2.1 q.2.2 := by
    refine List.forall_mem_cons.mpr ⟨vi_FgP (T := TX1) (N := 20) (Ts := W0 :: vWall) hx hb hts hown hK (fun w h => List.mem_cons_of_mem _ (vmu_1 w h)) rfl (by decide) (List.mem_cons_of_mem _ (vm_0 _ (List.mem_of_getElem? (i := 32) rfl))) rfl, ?_⟩
    refine List.forall_mem_cons.mpr ⟨vi_FgP (T := TX1) (N := 20) (Ts := W0 :: vWall) hx hb hts hown hK (fun w h => List.mem_cons_of_mem _ (vmu_1 w h)) rfl (by decide) (List.mem_cons_of_mem _ (vm_1 _ (List.mem_of_getElem? (i := 1) rfl))) rfl, ?_⟩
    refine List.forall_mem_cons.mpr ⟨vi_FgN (T := TX2) (N := 9) (Ts := W0 :: vWall) hx hb hts hown hK (fun w h => List.mem_cons_of_mem _ (vmu_2 w h)) rfl (by decide) hN nf_18 rfl, ?_⟩
    exact fun q hq => by cases hq
  exact fun i ci k h => key (i, ci, k) h
theorem vfp_X1_15_6_7 {p : Program} {l : Launch} {e : Env} {R : Room} {s : State} {m : MethodId} {args : Array Value} {below : List Frame} {meth : Method} {c : Code} {Q : State → Prop} {cc : ByteArray} {D : va_G} {cy : Nat → ClassId} {nL : Nat} {W0 : Cond} {A0 : Nat → Prop} {H0 : Heap} {v : Value} (S : CallFix p m c cc nL s args (W0 :: vWall) RX1) (hK : va_K D vwCl (tyL cy) s) (hN : NL s) (hv : narrow (tyX1 7) v = v ∧ fits (tyX1 7) v = true) : vi_Fp p l e R s m args below meth c Q cc D A0 H0 15 6 7 v := by
  obtain ⟨hx, hb, -, hown, hts⟩ := S
  exact vi_FpP (ty0 := tyX1) (T := TX1) (N := 20) (Ts := W0 :: vWall) hx hb hts hown hK (fun w h => List.mem_cons_of_mem _ (vmu_1 w h)) rfl (by decide) tyX1_ok nmX1 rfl (List.mem_cons_of_mem _ (vm_0 _ (List.mem_of_getElem? (i := 33) rfl))) rfl hv
theorem vfp_X1_18_6_10 {p : Program} {l : Launch} {e : Env} {R : Room} {s : State} {m : MethodId} {args : Array Value} {below : List Frame} {meth : Method} {c : Code} {Q : State → Prop} {cc : ByteArray} {D : va_G} {cy : Nat → ClassId} {nL : Nat} {W0 : Cond} {A0 : Nat → Prop} {H0 : Heap} {v : Value} (S : CallFix p m c cc nL s args (W0 :: vWall) RX1) (hK : va_K D vwCl (tyL cy) s) (hN : NL s) (hv : narrow (tyX1 10) v = v ∧ fits (tyX1 10) v = true) : vi_Fp p l e R s m args below meth c Q cc D A0 H0 18 6 10 v := by
  obtain ⟨hx, hb, -, hown, hts⟩ := S
  exact vi_FpP (ty0 := tyX1) (T := TX1) (N := 20) (Ts := W0 :: vWall) hx hb hts hown hK (fun w h => List.mem_cons_of_mem _ (vmu_1 w h)) rfl (by decide) tyX1_ok nmX1 rfl (List.mem_cons_of_mem _ (vm_0 _ (List.mem_of_getElem? (i := 34) rfl))) rfl hv
theorem vfp_X1_22_6_11 {p : Program} {l : Launch} {e : Env} {R : Room} {s : State} {m : MethodId} {args : Array Value} {below : List Frame} {meth : Method} {c : Code} {Q : State → Prop} {cc : ByteArray} {D : va_G} {cy : Nat → ClassId} {nL : Nat} {W0 : Cond} {A0 : Nat → Prop} {H0 : Heap} {v : Value} (S : CallFix p m c cc nL s args (W0 :: vWall) RX1) (hK : va_K D vwCl (tyL cy) s) (hN : NL s) (hv : narrow (tyX1 11) v = v ∧ fits (tyX1 11) v = true) : vi_Fp p l e R s m args below meth c Q cc D A0 H0 22 6 11 v := by
  obtain ⟨hx, hb, -, hown, hts⟩ := S
  exact vi_FpP (ty0 := tyX1) (T := TX1) (N := 20) (Ts := W0 :: vWall) hx hb hts hown hK (fun w h => List.mem_cons_of_mem _ (vmu_1 w h)) rfl (by decide) tyX1_ok nmX1 rfl (List.mem_cons_of_mem _ (vm_0 _ (List.mem_of_getElem? (i := 35) rfl))) rfl hv
theorem vfp_X1_25_6_12 {p : Program} {l : Launch} {e : Env} {R : Room} {s : State} {m : MethodId} {args : Array Value} {below : List Frame} {meth : Method} {c : Code} {Q : State → Prop} {cc : ByteArray} {D : va_G} {cy : Nat → ClassId} {nL : Nat} {W0 : Cond} {A0 : Nat → Prop} {H0 : Heap} {v : Value} (S : CallFix p m c cc nL s args (W0 :: vWall) RX1) (hK : va_K D vwCl (tyL cy) s) (hN : NL s) (hv : narrow (tyX1 12) v = v ∧ fits (tyX1 12) v = true) : vi_Fp p l e R s m args below meth c Q cc D A0 H0 25 6 12 v := by
  obtain ⟨hx, hb, -, hown, hts⟩ := S
  exact vi_FpP (ty0 := tyX1) (T := TX1) (N := 20) (Ts := W0 :: vWall) hx hb hts hown hK (fun w h => List.mem_cons_of_mem _ (vmu_1 w h)) rfl (by decide) tyX1_ok nmX1 rfl (List.mem_cons_of_mem _ (vm_0 _ (List.mem_of_getElem? (i := 36) rfl))) rfl hv
theorem vfp_X1_28_6_14 {p : Program} {l : Launch} {e : Env} {R : Room} {s : State} {m : MethodId} {args : Array Value} {below : List Frame} {meth : Method} {c : Code} {Q : State → Prop} {cc : ByteArray} {D : va_G} {cy : Nat → ClassId} {nL : Nat} {W0 : Cond} {A0 : Nat → Prop} {H0 : Heap} {v : Value} (S : CallFix p m c cc nL s args (W0 :: vWall) RX1) (hK : va_K D vwCl (tyL cy) s) (hN : NL s) (hv : narrow (tyX1 14) v = v ∧ fits (tyX1 14) v = true) : vi_Fp p l e R s m args below meth c Q cc D A0 H0 28 6 14 v := by
  obtain ⟨hx, hb, -, hown, hts⟩ := S
  exact vi_FpP (ty0 := tyX1) (T := TX1) (N := 20) (Ts := W0 :: vWall) hx hb hts hown hK (fun w h => List.mem_cons_of_mem _ (vmu_1 w h)) rfl (by decide) tyX1_ok nmX1 rfl (List.mem_cons_of_mem _ (vm_0 _ (List.mem_of_getElem? (i := 37) rfl))) rfl hv
theorem vfp_X1_52_6_8 {p : Program} {l : Launch} {e : Env} {R : Room} {s : State} {m : MethodId} {args : Array Value} {below : List Frame} {meth : Method} {c : Code} {Q : State → Prop} {cc : ByteArray} {D : va_G} {cy : Nat → ClassId} {nL : Nat} {W0 : Cond} {A0 : Nat → Prop} {H0 : Heap} {v : Value} (S : CallFix p m c cc nL s args (W0 :: vWall) RX1) (hK : va_K D vwCl (tyL cy) s) (hN : NL s) (hv : narrow (tyX1 8) v = v ∧ fits (tyX1 8) v = true) : vi_Fp p l e R s m args below meth c Q cc D A0 H0 52 6 8 v := by
  obtain ⟨hx, hb, -, hown, hts⟩ := S
  exact vi_FpP (ty0 := tyX1) (T := TX1) (N := 20) (Ts := W0 :: vWall) hx hb hts hown hK (fun w h => List.mem_cons_of_mem _ (vmu_1 w h)) rfl (by decide) tyX1_ok nmX1 rfl (List.mem_cons_of_mem _ (vm_1 _ (List.mem_of_getElem? (i := 9) rfl))) rfl hv
theorem vfp_X1_56_6_13 {p : Program} {l : Launch} {e : Env} {R : Room} {s : State} {m : MethodId} {args : Array Value} {below : List Frame} {meth : Method} {c : Code} {Q : State → Prop} {cc : ByteArray} {D : va_G} {cy : Nat → ClassId} {nL : Nat} {W0 : Cond} {A0 : Nat → Prop} {H0 : Heap} {v : Value} (S : CallFix p m c cc nL s args (W0 :: vWall) RX1) (hK : va_K D vwCl (tyL cy) s) (hN : NL s) (hv : narrow (tyX1 13) v = v ∧ fits (tyX1 13) v = true) : vi_Fp p l e R s m args below meth c Q cc D A0 H0 56 6 13 v := by
  obtain ⟨hx, hb, -, hown, hts⟩ := S
  exact vi_FpP (ty0 := tyX1) (T := TX1) (N := 20) (Ts := W0 :: vWall) hx hb hts hown hK (fun w h => List.mem_cons_of_mem _ (vmu_1 w h)) rfl (by decide) tyX1_ok nmX1 rfl (List.mem_cons_of_mem _ (vm_1 _ (List.mem_of_getElem? (i := 10) rfl))) rfl hv
theorem vfp_X1_59_6_16 {p : Program} {l : Launch} {e : Env} {R : Room} {s : State} {m : MethodId} {args : Array Value} {below : List Frame} {meth : Method} {c : Code} {Q : State → Prop} {cc : ByteArray} {D : va_G} {cy : Nat → ClassId} {nL : Nat} {W0 : Cond} {A0 : Nat → Prop} {H0 : Heap} {v : Value} (S : CallFix p m c cc nL s args (W0 :: vWall) RX1) (hK : va_K D vwCl (tyL cy) s) (hN : NL s) (hv : narrow (tyX1 16) v = v ∧ fits (tyX1 16) v = true) : vi_Fp p l e R s m args below meth c Q cc D A0 H0 59 6 16 v := by
  obtain ⟨hx, hb, -, hown, hts⟩ := S
  exact vi_FpP (ty0 := tyX1) (T := TX1) (N := 20) (Ts := W0 :: vWall) hx hb hts hown hK (fun w h => List.mem_cons_of_mem _ (vmu_1 w h)) rfl (by decide) tyX1_ok nmX1 rfl (List.mem_cons_of_mem _ (vm_1 _ (List.mem_of_getElem? (i := 11) rfl))) rfl hv
theorem vct_X1 {p : Program} {s : State} {m : MethodId} {args : Array Value} {c : Code} {cc : ByteArray} {nL : Nat} {W0 : Cond} (S : CallFix p m c cc nL s args (W0 :: vWall) RX1) : ∀ (i : Nat) (v : Int), (i, v) ∈ vCT_X1 → (Jvm.Cond.constant RX1 i (Int32.ofInt v)).before args s = true := by
  obtain ⟨-, -, -, -, hts⟩ := S
  have key : ∀ q ∈ vCT_X1, (Jvm.Cond.constant RX1 q.1 (Int32.ofInt q.2)).before args s = true := by
    exact fun q hq => by cases hq
  exact fun i v h => key (i, v) h
theorem vc2_X1 {p : Program} {s : State} {m : MethodId} {args : Array Value} {c : Code} {cc : ByteArray} {nL : Nat} {W0 : Cond} (S : CallFix p m c cc nL s args (W0 :: vWall) RX1) : ∀ (i : Nat) (v : Int), (i, v) ∈ vC2_X1 → ∃ x : Int64, (Jvm.Cond.constantLong RX1 i x).before args s = true := by
  obtain ⟨-, -, -, -, hts⟩ := S
  have key : ∀ q ∈ vC2_X1, ∃ x : Int64, (Jvm.Cond.constantLong RX1 q.1 x).before args s = true := by
    exact fun q hq => by cases hq
  exact fun i v h => key (i, v) h
def vFT_X2 : List (Nat × Nat × Nat) := [(12, 7, 7), (25, 12, 0), (30, 12, 2)]
def vCT_X2 : List (Nat × Int) := []
def vC2_X2 : List (Nat × Int) := []
theorem vfg_X2 {p : Program} {l : Launch} {e : Env} {R : Room} {s : State} {m : MethodId} {args : Array Value} {below : List Frame} {meth : Method} {c : Code} {Q : State → Prop} {cc : ByteArray} {D : va_G} {cy : Nat → ClassId} {nL : Nat} {W0 : Cond} (S : CallFix p m c cc nL s args (W0 :: vWall) RX2) (hK : va_K D vwCl (tyL cy) s) (hN : NL s) : ∀ (i ci k : Nat), (i, ci, k) ∈ vFT_X2 → vi_Fg p l e R s m args below meth c Q cc D i ci k := by
  obtain ⟨hx, hb, -, hown, hts⟩ := S
  have key : ∀ q ∈ vFT_X2, vi_Fg p l e R s m args below meth c Q cc D q.1 q.2.1 q.2.2 := by
    refine List.forall_mem_cons.mpr ⟨vi_FgP (T := TX2) (N := 9) (Ts := W0 :: vWall) hx hb hts hown hK (fun w h => List.mem_cons_of_mem _ (vmu_2 w h)) rfl (by decide) (List.mem_cons_of_mem _ (vm_0 _ (List.mem_of_getElem? (i := 24) rfl))) rfl, ?_⟩
    refine List.forall_mem_cons.mpr ⟨vi_FgN (T := TX7) (N := 6) (Ts := W0 :: vWall) hx hb hts hown hK (fun w h => List.mem_cons_of_mem _ (vmu_7 w h)) rfl (by decide) hN nf_51 rfl, ?_⟩
    refine List.forall_mem_cons.mpr ⟨vi_FgN (T := TX7) (N := 6) (Ts := W0 :: vWall) hx hb hts hown hK (fun w h => List.mem_cons_of_mem _ (vmu_7 w h)) rfl (by decide) hN nf_55 rfl, ?_⟩
    exact fun q hq => by cases hq
  exact fun i ci k h => key (i, ci, k) h
theorem vfp_X2_41_7_5 {p : Program} {l : Launch} {e : Env} {R : Room} {s : State} {m : MethodId} {args : Array Value} {below : List Frame} {meth : Method} {c : Code} {Q : State → Prop} {cc : ByteArray} {D : va_G} {cy : Nat → ClassId} {nL : Nat} {W0 : Cond} {A0 : Nat → Prop} {H0 : Heap} {v : Value} (S : CallFix p m c cc nL s args (W0 :: vWall) RX2) (hK : va_K D vwCl (tyL cy) s) (hN : NL s) (hv : narrow (tyX2 5) v = v ∧ fits (tyX2 5) v = true) : vi_Fp p l e R s m args below meth c Q cc D A0 H0 41 7 5 v := by
  obtain ⟨hx, hb, -, hown, hts⟩ := S
  exact vi_FpP (ty0 := tyX2) (T := TX2) (N := 9) (Ts := W0 :: vWall) hx hb hts hown hK (fun w h => List.mem_cons_of_mem _ (vmu_2 w h)) rfl (by decide) tyX2_ok nmX2 rfl (List.mem_cons_of_mem _ (vm_1 _ (List.mem_of_getElem? (i := 16) rfl))) rfl hv
theorem vct_X2 {p : Program} {s : State} {m : MethodId} {args : Array Value} {c : Code} {cc : ByteArray} {nL : Nat} {W0 : Cond} (S : CallFix p m c cc nL s args (W0 :: vWall) RX2) : ∀ (i : Nat) (v : Int), (i, v) ∈ vCT_X2 → (Jvm.Cond.constant RX2 i (Int32.ofInt v)).before args s = true := by
  obtain ⟨-, -, -, -, hts⟩ := S
  have key : ∀ q ∈ vCT_X2, (Jvm.Cond.constant RX2 q.1 (Int32.ofInt q.2)).before args s = true := by
    exact fun q hq => by cases hq
  exact fun i v h => key (i, v) h
theorem vc2_X2 {p : Program} {s : State} {m : MethodId} {args : Array Value} {c : Code} {cc : ByteArray} {nL : Nat} {W0 : Cond} (S : CallFix p m c cc nL s args (W0 :: vWall) RX2) : ∀ (i : Nat) (v : Int), (i, v) ∈ vC2_X2 → ∃ x : Int64, (Jvm.Cond.constantLong RX2 i x).before args s = true := by
  obtain ⟨-, -, -, -, hts⟩ := S
  have key : ∀ q ∈ vC2_X2, ∃ x : Int64, (Jvm.Cond.constantLong RX2 q.1 x).before args s = true := by
    exact fun q hq => by cases hq
  exact fun i v h => key (i, v) h
def vFT_X3 : List (Nat × Nat × Nat) := [(9, 8, 0), (15, 8, 1), (19, 8, 2), (26, 8, 6), (29, 8, 7), (32, 8, 4), (35, 8, 5), (38, 8, 3)]
def vCT_X3 : List (Nat × Int) := []
def vC2_X3 : List (Nat × Int) := []
theorem vfg_X3 {p : Program} {l : Launch} {e : Env} {R : Room} {s : State} {m : MethodId} {args : Array Value} {below : List Frame} {meth : Method} {c : Code} {Q : State → Prop} {cc : ByteArray} {D : va_G} {cy : Nat → ClassId} {nL : Nat} {W0 : Cond} (S : CallFix p m c cc nL s args (W0 :: vWall) RX3) (hK : va_K D vwCl (tyL cy) s) (hN : NL s) : ∀ (i ci k : Nat), (i, ci, k) ∈ vFT_X3 → vi_Fg p l e R s m args below meth c Q cc D i ci k := by
  obtain ⟨hx, hb, -, hown, hts⟩ := S
  have key : ∀ q ∈ vFT_X3, vi_Fg p l e R s m args below meth c Q cc D q.1 q.2.1 q.2.2 := by
    refine List.forall_mem_cons.mpr ⟨vi_FgP (T := TX3) (N := 10) (Ts := W0 :: vWall) hx hb hts hown hK (fun w h => List.mem_cons_of_mem _ (vmu_3 w h)) rfl (by decide) (List.mem_cons_of_mem _ (vm_1 _ (List.mem_of_getElem? (i := 22) rfl))) rfl, ?_⟩
    refine List.forall_mem_cons.mpr ⟨vi_FgP (T := TX3) (N := 10) (Ts := W0 :: vWall) hx hb hts hown hK (fun w h => List.mem_cons_of_mem _ (vmu_3 w h)) rfl (by decide) (List.mem_cons_of_mem _ (vm_1 _ (List.mem_of_getElem? (i := 23) rfl))) rfl, ?_⟩
    refine List.forall_mem_cons.mpr ⟨vi_FgP (T := TX3) (N := 10) (Ts := W0 :: vWall) hx hb hts hown hK (fun w h => List.mem_cons_of_mem _ (vmu_3 w h)) rfl (by decide) (List.mem_cons_of_mem _ (vm_1 _ (List.mem_of_getElem? (i := 24) rfl))) rfl, ?_⟩
    refine List.forall_mem_cons.mpr ⟨vi_FgP (T := TX3) (N := 10) (Ts := W0 :: vWall) hx hb hts hown hK (fun w h => List.mem_cons_of_mem _ (vmu_3 w h)) rfl (by decide) (List.mem_cons_of_mem _ (vm_1 _ (List.mem_of_getElem? (i := 27) rfl))) rfl, ?_⟩
    refine List.forall_mem_cons.mpr ⟨vi_FgP (T := TX3) (N := 10) (Ts := W0 :: vWall) hx hb hts hown hK (fun w h => List.mem_cons_of_mem _ (vmu_3 w h)) rfl (by decide) (List.mem_cons_of_mem _ (vm_1 _ (List.mem_of_getElem? (i := 28) rfl))) rfl, ?_⟩
    refine List.forall_mem_cons.mpr ⟨vi_FgP (T := TX3) (N := 10) (Ts := W0 :: vWall) hx hb hts hown hK (fun w h => List.mem_cons_of_mem _ (vmu_3 w h)) rfl (by decide) (List.mem_cons_of_mem _ (vm_1 _ (List.mem_of_getElem? (i := 29) rfl))) rfl, ?_⟩
    refine List.forall_mem_cons.mpr ⟨vi_FgP (T := TX3) (N := 10) (Ts := W0 :: vWall) hx hb hts hown hK (fun w h => List.mem_cons_of_mem _ (vmu_3 w h)) rfl (by decide) (List.mem_cons_of_mem _ (vm_1 _ (List.mem_of_getElem? (i := 30) rfl))) rfl, ?_⟩
    refine List.forall_mem_cons.mpr ⟨vi_FgP (T := TX3) (N := 10) (Ts := W0 :: vWall) hx hb hts hown hK (fun w h => List.mem_cons_of_mem _ (vmu_3 w h)) rfl (by decide) (List.mem_cons_of_mem _ (vm_1 _ (List.mem_of_getElem? (i := 31) rfl))) rfl, ?_⟩
    exact fun q hq => by cases hq
  exact fun i ci k h => key (i, ci, k) h
theorem vfp_X3_22_8_8 {p : Program} {l : Launch} {e : Env} {R : Room} {s : State} {m : MethodId} {args : Array Value} {below : List Frame} {meth : Method} {c : Code} {Q : State → Prop} {cc : ByteArray} {D : va_G} {cy : Nat → ClassId} {nL : Nat} {W0 : Cond} {A0 : Nat → Prop} {H0 : Heap} {v : Value} (S : CallFix p m c cc nL s args (W0 :: vWall) RX3) (hK : va_K D vwCl (tyL cy) s) (hN : NL s) (hv : narrow (tyX3 8) v = v ∧ fits (tyX3 8) v = true) : vi_Fp p l e R s m args below meth c Q cc D A0 H0 22 8 8 v := by
  obtain ⟨hx, hb, -, hown, hts⟩ := S
  exact vi_FpP (ty0 := tyX3) (T := TX3) (N := 10) (Ts := W0 :: vWall) hx hb hts hown hK (fun w h => List.mem_cons_of_mem _ (vmu_3 w h)) rfl (by decide) tyX3_ok nmX3 rfl (List.mem_cons_of_mem _ (vm_1 _ (List.mem_of_getElem? (i := 25) rfl))) rfl hv
theorem vfp_X3_26_8_6 {p : Program} {l : Launch} {e : Env} {R : Room} {s : State} {m : MethodId} {args : Array Value} {below : List Frame} {meth : Method} {c : Code} {Q : State → Prop} {cc : ByteArray} {D : va_G} {cy : Nat → ClassId} {nL : Nat} {W0 : Cond} {A0 : Nat → Prop} {H0 : Heap} {v : Value} (S : CallFix p m c cc nL s args (W0 :: vWall) RX3) (hK : va_K D vwCl (tyL cy) s) (hN : NL s) (hv : narrow (tyX3 6) v = v ∧ fits (tyX3 6) v = true) : vi_Fp p l e R s m args below meth c Q cc D A0 H0 26 8 6 v := by
  obtain ⟨hx, hb, -, hown, hts⟩ := S
  exact vi_FpP (ty0 := tyX3) (T := TX3) (N := 10) (Ts := W0 :: vWall) hx hb hts hown hK (fun w h => List.mem_cons_of_mem _ (vmu_3 w h)) rfl (by decide) tyX3_ok nmX3 rfl (List.mem_cons_of_mem _ (vm_1 _ (List.mem_of_getElem? (i := 27) rfl))) rfl hv
theorem vfp_X3_29_8_7 {p : Program} {l : Launch} {e : Env} {R : Room} {s : State} {m : MethodId} {args : Array Value} {below : List Frame} {meth : Method} {c : Code} {Q : State → Prop} {cc : ByteArray} {D : va_G} {cy : Nat → ClassId} {nL : Nat} {W0 : Cond} {A0 : Nat → Prop} {H0 : Heap} {v : Value} (S : CallFix p m c cc nL s args (W0 :: vWall) RX3) (hK : va_K D vwCl (tyL cy) s) (hN : NL s) (hv : narrow (tyX3 7) v = v ∧ fits (tyX3 7) v = true) : vi_Fp p l e R s m args below meth c Q cc D A0 H0 29 8 7 v := by
  obtain ⟨hx, hb, -, hown, hts⟩ := S
  exact vi_FpP (ty0 := tyX3) (T := TX3) (N := 10) (Ts := W0 :: vWall) hx hb hts hown hK (fun w h => List.mem_cons_of_mem _ (vmu_3 w h)) rfl (by decide) tyX3_ok nmX3 rfl (List.mem_cons_of_mem _ (vm_1 _ (List.mem_of_getElem? (i := 28) rfl))) rfl hv
theorem vfp_X3_32_8_4 {p : Program} {l : Launch} {e : Env} {R : Room} {s : State} {m : MethodId} {args : Array Value} {below : List Frame} {meth : Method} {c : Code} {Q : State → Prop} {cc : ByteArray} {D : va_G} {cy : Nat → ClassId} {nL : Nat} {W0 : Cond} {A0 : Nat → Prop} {H0 : Heap} {v : Value} (S : CallFix p m c cc nL s args (W0 :: vWall) RX3) (hK : va_K D vwCl (tyL cy) s) (hN : NL s) (hv : narrow (tyX3 4) v = v ∧ fits (tyX3 4) v = true) : vi_Fp p l e R s m args below meth c Q cc D A0 H0 32 8 4 v := by
  obtain ⟨hx, hb, -, hown, hts⟩ := S
  exact vi_FpP (ty0 := tyX3) (T := TX3) (N := 10) (Ts := W0 :: vWall) hx hb hts hown hK (fun w h => List.mem_cons_of_mem _ (vmu_3 w h)) rfl (by decide) tyX3_ok nmX3 rfl (List.mem_cons_of_mem _ (vm_1 _ (List.mem_of_getElem? (i := 29) rfl))) rfl hv
theorem vfp_X3_35_8_5 {p : Program} {l : Launch} {e : Env} {R : Room} {s : State} {m : MethodId} {args : Array Value} {below : List Frame} {meth : Method} {c : Code} {Q : State → Prop} {cc : ByteArray} {D : va_G} {cy : Nat → ClassId} {nL : Nat} {W0 : Cond} {A0 : Nat → Prop} {H0 : Heap} {v : Value} (S : CallFix p m c cc nL s args (W0 :: vWall) RX3) (hK : va_K D vwCl (tyL cy) s) (hN : NL s) (hv : narrow (tyX3 5) v = v ∧ fits (tyX3 5) v = true) : vi_Fp p l e R s m args below meth c Q cc D A0 H0 35 8 5 v := by
  obtain ⟨hx, hb, -, hown, hts⟩ := S
  exact vi_FpP (ty0 := tyX3) (T := TX3) (N := 10) (Ts := W0 :: vWall) hx hb hts hown hK (fun w h => List.mem_cons_of_mem _ (vmu_3 w h)) rfl (by decide) tyX3_ok nmX3 rfl (List.mem_cons_of_mem _ (vm_1 _ (List.mem_of_getElem? (i := 30) rfl))) rfl hv
theorem vfp_X3_38_8_3 {p : Program} {l : Launch} {e : Env} {R : Room} {s : State} {m : MethodId} {args : Array Value} {below : List Frame} {meth : Method} {c : Code} {Q : State → Prop} {cc : ByteArray} {D : va_G} {cy : Nat → ClassId} {nL : Nat} {W0 : Cond} {A0 : Nat → Prop} {H0 : Heap} {v : Value} (S : CallFix p m c cc nL s args (W0 :: vWall) RX3) (hK : va_K D vwCl (tyL cy) s) (hN : NL s) (hv : narrow (tyX3 3) v = v ∧ fits (tyX3 3) v = true) : vi_Fp p l e R s m args below meth c Q cc D A0 H0 38 8 3 v := by
  obtain ⟨hx, hb, -, hown, hts⟩ := S
  exact vi_FpP (ty0 := tyX3) (T := TX3) (N := 10) (Ts := W0 :: vWall) hx hb hts hown hK (fun w h => List.mem_cons_of_mem _ (vmu_3 w h)) rfl (by decide) tyX3_ok nmX3 rfl (List.mem_cons_of_mem _ (vm_1 _ (List.mem_of_getElem? (i := 31) rfl))) rfl hv
theorem vfp_X3_41_8_9 {p : Program} {l : Launch} {e : Env} {R : Room} {s : State} {m : MethodId} {args : Array Value} {below : List Frame} {meth : Method} {c : Code} {Q : State → Prop} {cc : ByteArray} {D : va_G} {cy : Nat → ClassId} {nL : Nat} {W0 : Cond} {A0 : Nat → Prop} {H0 : Heap} {v : Value} (S : CallFix p m c cc nL s args (W0 :: vWall) RX3) (hK : va_K D vwCl (tyL cy) s) (hN : NL s) (hv : narrow (tyX3 9) v = v ∧ fits (tyX3 9) v = true) : vi_Fp p l e R s m args below meth c Q cc D A0 H0 41 8 9 v := by
  obtain ⟨hx, hb, -, hown, hts⟩ := S
  exact vi_FpP (ty0 := tyX3) (T := TX3) (N := 10) (Ts := W0 :: vWall) hx hb hts hown hK (fun w h => List.mem_cons_of_mem _ (vmu_3 w h)) rfl (by decide) tyX3_ok nmX3 rfl (List.mem_cons_of_mem _ (vm_1 _ (List.mem_of_getElem? (i := 33) rfl))) rfl hv
theorem vct_X3 {p : Program} {s : State} {m : MethodId} {args : Array Value} {c : Code} {cc : ByteArray} {nL : Nat} {W0 : Cond} (S : CallFix p m c cc nL s args (W0 :: vWall) RX3) : ∀ (i : Nat) (v : Int), (i, v) ∈ vCT_X3 → (Jvm.Cond.constant RX3 i (Int32.ofInt v)).before args s = true := by
  obtain ⟨-, -, -, -, hts⟩ := S
  have key : ∀ q ∈ vCT_X3, (Jvm.Cond.constant RX3 q.1 (Int32.ofInt q.2)).before args s = true := by
    exact fun q hq => by cases hq
  exact fun i v h => key (i, v) h
theorem vc2_X3 {p : Program} {s : State} {m : MethodId} {args : Array Value} {c : Code} {cc : ByteArray} {nL : Nat} {W0 : Cond} (S : CallFix p m c cc nL s args (W0 :: vWall) RX3) : ∀ (i : Nat) (v : Int), (i, v) ∈ vC2_X3 → ∃ x : Int64, (Jvm.Cond.constantLong RX3 i x).before args s = true := by
  obtain ⟨-, -, -, -, hts⟩ := S
  have key : ∀ q ∈ vC2_X3, ∃ x : Int64, (Jvm.Cond.constantLong RX3 q.1 x).before args s = true := by
    exact fun q hq => by cases hq
  exact fun i v h => key (i, v) h
def vFT_X4 : List (Nat × Nat × Nat) := [(9, 9, 0), (15, 9, 1)]
def vCT_X4 : List (Nat × Int) := []
def vC2_X4 : List (Nat × Int) := []
theorem vfg_X4 {p : Program} {l : Launch} {e : Env} {R : Room} {s : State} {m : MethodId} {args : Array Value} {below : List Frame} {meth : Method} {c : Code} {Q : State → Prop} {cc : ByteArray} {D : va_G} {cy : Nat → ClassId} {nL : Nat} {W0 : Cond} (S : CallFix p m c cc nL s args (W0 :: vWall) RX4) (hK : va_K D vwCl (tyL cy) s) (hN : NL s) : ∀ (i ci k : Nat), (i, ci, k) ∈ vFT_X4 → vi_Fg p l e R s m args below meth c Q cc D i ci k := by
  obtain ⟨hx, hb, -, hown, hts⟩ := S
  have key : ∀ q ∈ vFT_X4, vi_Fg p l e R s m args below meth c Q cc D q.1 q.2.1 q.2.2 := by
    refine List.forall_mem_cons.mpr ⟨vi_FgP (T := TX4) (N := 2) (Ts := W0 :: vWall) hx hb hts hown hK (fun w h => List.mem_cons_of_mem _ (vmu_4 w h)) rfl (by decide) (List.mem_cons_of_mem _ (vm_0 _ (List.mem_of_getElem? (i := 18) rfl))) rfl, ?_⟩
    refine List.forall_mem_cons.mpr ⟨vi_FgP (T := TX4) (N := 2) (Ts := W0 :: vWall) hx hb hts hown hK (fun w h => List.mem_cons_of_mem _ (vmu_4 w h)) rfl (by decide) (List.mem_cons_of_mem _ (vm_1 _ (List.mem_of_getElem? (i := 35) rfl))) rfl, ?_⟩
    exact fun q hq => by cases hq
  exact fun i ci k h => key (i, ci, k) h
theorem vfp_X4_15_9_1 {p : Program} {l : Launch} {e : Env} {R : Room} {s : State} {m : MethodId} {args : Array Value} {below : List Frame} {meth : Method} {c : Code} {Q : State → Prop} {cc : ByteArray} {D : va_G} {cy : Nat → ClassId} {nL : Nat} {W0 : Cond} {A0 : Nat → Prop} {H0 : Heap} {v : Value} (S : CallFix p m c cc nL s args (W0 :: vWall) RX4) (hK : va_K D vwCl (tyL cy) s) (hN : NL s) (hv : narrow (tyX4 1) v = v ∧ fits (tyX4 1) v = true) : vi_Fp p l e R s m args below meth c Q cc D A0 H0 15 9 1 v := by
  obtain ⟨hx, hb, -, hown, hts⟩ := S
  exact vi_FpP (ty0 := tyX4) (T := TX4) (N := 2) (Ts := W0 :: vWall) hx hb hts hown hK (fun w h => List.mem_cons_of_mem _ (vmu_4 w h)) rfl (by decide) tyX4_ok nmX4 rfl (List.mem_cons_of_mem _ (vm_1 _ (List.mem_of_getElem? (i := 35) rfl))) rfl hv
theorem vct_X4 {p : Program} {s : State} {m : MethodId} {args : Array Value} {c : Code} {cc : ByteArray} {nL : Nat} {W0 : Cond} (S : CallFix p m c cc nL s args (W0 :: vWall) RX4) : ∀ (i : Nat) (v : Int), (i, v) ∈ vCT_X4 → (Jvm.Cond.constant RX4 i (Int32.ofInt v)).before args s = true := by
  obtain ⟨-, -, -, -, hts⟩ := S
  have key : ∀ q ∈ vCT_X4, (Jvm.Cond.constant RX4 q.1 (Int32.ofInt q.2)).before args s = true := by
    exact fun q hq => by cases hq
  exact fun i v h => key (i, v) h
theorem vc2_X4 {p : Program} {s : State} {m : MethodId} {args : Array Value} {c : Code} {cc : ByteArray} {nL : Nat} {W0 : Cond} (S : CallFix p m c cc nL s args (W0 :: vWall) RX4) : ∀ (i : Nat) (v : Int), (i, v) ∈ vC2_X4 → ∃ x : Int64, (Jvm.Cond.constantLong RX4 i x).before args s = true := by
  obtain ⟨-, -, -, -, hts⟩ := S
  have key : ∀ q ∈ vC2_X4, ∃ x : Int64, (Jvm.Cond.constantLong RX4 q.1 x).before args s = true := by
    exact fun q hq => by cases hq
  exact fun i v h => key (i, v) h
def vFT_X5 : List (Nat × Nat × Nat) := [(15, 10, 4), (19, 10, 5), (27, 10, 11), (35, 10, 1), (39, 10, 2), (65, 10, 12), (68, 10, 13)]
def vCT_X5 : List (Nat × Int) := []
def vC2_X5 : List (Nat × Int) := []
theorem vfg_X5 {p : Program} {l : Launch} {e : Env} {R : Room} {s : State} {m : MethodId} {args : Array Value} {below : List Frame} {meth : Method} {c : Code} {Q : State → Prop} {cc : ByteArray} {D : va_G} {cy : Nat → ClassId} {nL : Nat} {W0 : Cond} (S : CallFix p m c cc nL s args (W0 :: vWall) RX5) (hK : va_K D vwCl (tyL cy) s) (hN : NL s) : ∀ (i ci k : Nat), (i, ci, k) ∈ vFT_X5 → vi_Fg p l e R s m args below meth c Q cc D i ci k := by
  obtain ⟨hx, hb, -, hown, hts⟩ := S
  have key : ∀ q ∈ vFT_X5, vi_Fg p l e R s m args below meth c Q cc D q.1 q.2.1 q.2.2 := by
    refine List.forall_mem_cons.mpr ⟨vi_FgP (T := TX5) (N := 14) (Ts := W0 :: vWall) hx hb hts hown hK (fun w h => List.mem_cons_of_mem _ (vmu_5 w h)) rfl (by decide) (List.mem_cons_of_mem _ (vm_2 _ (List.mem_of_getElem? (i := 2) rfl))) rfl, ?_⟩
    refine List.forall_mem_cons.mpr ⟨vi_FgP (T := TX5) (N := 14) (Ts := W0 :: vWall) hx hb hts hown hK (fun w h => List.mem_cons_of_mem _ (vmu_5 w h)) rfl (by decide) (List.mem_cons_of_mem _ (vm_2 _ (List.mem_of_getElem? (i := 3) rfl))) rfl, ?_⟩
    refine List.forall_mem_cons.mpr ⟨vi_FgP (T := TX5) (N := 14) (Ts := W0 :: vWall) hx hb hts hown hK (fun w h => List.mem_cons_of_mem _ (vmu_5 w h)) rfl (by decide) (List.mem_cons_of_mem _ (vm_2 _ (List.mem_of_getElem? (i := 6) rfl))) rfl, ?_⟩
    refine List.forall_mem_cons.mpr ⟨vi_FgP (T := TX5) (N := 14) (Ts := W0 :: vWall) hx hb hts hown hK (fun w h => List.mem_cons_of_mem _ (vmu_5 w h)) rfl (by decide) (List.mem_cons_of_mem _ (vm_2 _ (List.mem_of_getElem? (i := 12) rfl))) rfl, ?_⟩
    refine List.forall_mem_cons.mpr ⟨vi_FgP (T := TX5) (N := 14) (Ts := W0 :: vWall) hx hb hts hown hK (fun w h => List.mem_cons_of_mem _ (vmu_5 w h)) rfl (by decide) (List.mem_cons_of_mem _ (vm_2 _ (List.mem_of_getElem? (i := 17) rfl))) rfl, ?_⟩
    refine List.forall_mem_cons.mpr ⟨vi_FgP (T := TX5) (N := 14) (Ts := W0 :: vWall) hx hb hts hown hK (fun w h => List.mem_cons_of_mem _ (vmu_5 w h)) rfl (by decide) (List.mem_cons_of_mem _ (vm_2 _ (List.mem_of_getElem? (i := 26) rfl))) rfl, ?_⟩
    refine List.forall_mem_cons.mpr ⟨vi_FgP (T := TX5) (N := 14) (Ts := W0 :: vWall) hx hb hts hown hK (fun w h => List.mem_cons_of_mem _ (vmu_5 w h)) rfl (by decide) (List.mem_cons_of_mem _ (vm_2 _ (List.mem_of_getElem? (i := 28) rfl))) rfl, ?_⟩
    exact fun q hq => by cases hq
  exact fun i ci k h => key (i, ci, k) h
theorem vfp_X5_9_10_3 {p : Program} {l : Launch} {e : Env} {R : Room} {s : State} {m : MethodId} {args : Array Value} {below : List Frame} {meth : Method} {c : Code} {Q : State → Prop} {cc : ByteArray} {D : va_G} {cy : Nat → ClassId} {nL : Nat} {W0 : Cond} {A0 : Nat → Prop} {H0 : Heap} {v : Value} (S : CallFix p m c cc nL s args (W0 :: vWall) RX5) (hK : va_K D vwCl (tyL cy) s) (hN : NL s) (hv : narrow (tyX5 3) v = v ∧ fits (tyX5 3) v = true) : vi_Fp p l e R s m args below meth c Q cc D A0 H0 9 10 3 v := by
  obtain ⟨hx, hb, -, hown, hts⟩ := S
  exact vi_FpP (ty0 := tyX5) (T := TX5) (N := 14) (Ts := W0 :: vWall) hx hb hts hown hK (fun w h => List.mem_cons_of_mem _ (vmu_5 w h)) rfl (by decide) tyX5_ok nmX5 rfl (List.mem_cons_of_mem _ (vm_2 _ (List.mem_of_getElem? (i := 1) rfl))) rfl hv
theorem vfp_X5_22_10_9 {p : Program} {l : Launch} {e : Env} {R : Room} {s : State} {m : MethodId} {args : Array Value} {below : List Frame} {meth : Method} {c : Code} {Q : State → Prop} {cc : ByteArray} {D : va_G} {cy : Nat → ClassId} {nL : Nat} {W0 : Cond} {A0 : Nat → Prop} {H0 : Heap} {v : Value} (S : CallFix p m c cc nL s args (W0 :: vWall) RX5) (hK : va_K D vwCl (tyL cy) s) (hN : NL s) (hv : narrow (tyX5 9) v = v ∧ fits (tyX5 9) v = true) : vi_Fp p l e R s m args below meth c Q cc D A0 H0 22 10 9 v := by
  obtain ⟨hx, hb, -, hown, hts⟩ := S
  exact vi_FpP (ty0 := tyX5) (T := TX5) (N := 14) (Ts := W0 :: vWall) hx hb hts hown hK (fun w h => List.mem_cons_of_mem _ (vmu_5 w h)) rfl (by decide) tyX5_ok nmX5 rfl (List.mem_cons_of_mem _ (vm_2 _ (List.mem_of_getElem? (i := 4) rfl))) rfl hv
theorem vfp_X5_35_10_1 {p : Program} {l : Launch} {e : Env} {R : Room} {s : State} {m : MethodId} {args : Array Value} {below : List Frame} {meth : Method} {c : Code} {Q : State → Prop} {cc : ByteArray} {D : va_G} {cy : Nat → ClassId} {nL : Nat} {W0 : Cond} {A0 : Nat → Prop} {H0 : Heap} {v : Value} (S : CallFix p m c cc nL s args (W0 :: vWall) RX5) (hK : va_K D vwCl (tyL cy) s) (hN : NL s) (hv : narrow (tyX5 1) v = v ∧ fits (tyX5 1) v = true) : vi_Fp p l e R s m args below meth c Q cc D A0 H0 35 10 1 v := by
  obtain ⟨hx, hb, -, hown, hts⟩ := S
  exact vi_FpP (ty0 := tyX5) (T := TX5) (N := 14) (Ts := W0 :: vWall) hx hb hts hown hK (fun w h => List.mem_cons_of_mem _ (vmu_5 w h)) rfl (by decide) tyX5_ok nmX5 rfl (List.mem_cons_of_mem _ (vm_2 _ (List.mem_of_getElem? (i := 12) rfl))) rfl hv
theorem vfp_X5_39_10_2 {p : Program} {l : Launch} {e : Env} {R : Room} {s : State} {m : MethodId} {args : Array Value} {below : List Frame} {meth : Method} {c : Code} {Q : State → Prop} {cc : ByteArray} {D : va_G} {cy : Nat → ClassId} {nL : Nat} {W0 : Cond} {A0 : Nat → Prop} {H0 : Heap} {v : Value} (S : CallFix p m c cc nL s args (W0 :: vWall) RX5) (hK : va_K D vwCl (tyL cy) s) (hN : NL s) (hv : narrow (tyX5 2) v = v ∧ fits (tyX5 2) v = true) : vi_Fp p l e R s m args below meth c Q cc D A0 H0 39 10 2 v := by
  obtain ⟨hx, hb, -, hown, hts⟩ := S
  exact vi_FpP (ty0 := tyX5) (T := TX5) (N := 14) (Ts := W0 :: vWall) hx hb hts hown hK (fun w h => List.mem_cons_of_mem _ (vmu_5 w h)) rfl (by decide) tyX5_ok nmX5 rfl (List.mem_cons_of_mem _ (vm_2 _ (List.mem_of_getElem? (i := 17) rfl))) rfl hv
theorem vfp_X5_43_7_2 {p : Program} {l : Launch} {e : Env} {R : Room} {s : State} {m : MethodId} {args : Array Value} {below : List Frame} {meth : Method} {c : Code} {Q : State → Prop} {cc : ByteArray} {D : va_G} {cy : Nat → ClassId} {nL : Nat} {W0 : Cond} {A0 : Nat → Prop} {H0 : Heap} {v : Value} (S : CallFix p m c cc nL s args (W0 :: vWall) RX5) (hK : va_K D vwCl (tyL cy) s) (hN : NL s) (hv : narrow (tyX2 2) v = v ∧ fits (tyX2 2) v = true) : vi_Fp p l e R s m args below meth c Q cc D A0 H0 43 7 2 v := by
  obtain ⟨hx, hb, -, hown, hts⟩ := S
  exact vi_FpN (ty0 := tyX2) (T := TX2) (N := 9) (Ts := W0 :: vWall) hx hb hts hown hK (fun w h => List.mem_cons_of_mem _ (vmu_2 w h)) rfl (by decide) tyX2_ok nmX2 rfl hN nf_21 rfl hv
theorem vfp_X5_52_10_8 {p : Program} {l : Launch} {e : Env} {R : Room} {s : State} {m : MethodId} {args : Array Value} {below : List Frame} {meth : Method} {c : Code} {Q : State → Prop} {cc : ByteArray} {D : va_G} {cy : Nat → ClassId} {nL : Nat} {W0 : Cond} {A0 : Nat → Prop} {H0 : Heap} {v : Value} (S : CallFix p m c cc nL s args (W0 :: vWall) RX5) (hK : va_K D vwCl (tyL cy) s) (hN : NL s) (hv : narrow (tyX5 8) v = v ∧ fits (tyX5 8) v = true) : vi_Fp p l e R s m args below meth c Q cc D A0 H0 52 10 8 v := by
  obtain ⟨hx, hb, -, hown, hts⟩ := S
  exact vi_FpP (ty0 := tyX5) (T := TX5) (N := 14) (Ts := W0 :: vWall) hx hb hts hown hK (fun w h => List.mem_cons_of_mem _ (vmu_5 w h)) rfl (by decide) tyX5_ok nmX5 rfl (List.mem_cons_of_mem _ (vm_2 _ (List.mem_of_getElem? (i := 14) rfl))) rfl hv
theorem vfp_X5_55_10_7 {p : Program} {l : Launch} {e : Env} {R : Room} {s : State} {m : MethodId} {args : Array Value} {below : List Frame} {meth : Method} {c : Code} {Q : State → Prop} {cc : ByteArray} {D : va_G} {cy : Nat → ClassId} {nL : Nat} {W0 : Cond} {A0 : Nat → Prop} {H0 : Heap} {v : Value} (S : CallFix p m c cc nL s args (W0 :: vWall) RX5) (hK : va_K D vwCl (tyL cy) s) (hN : NL s) (hv : narrow (tyX5 7) v = v ∧ fits (tyX5 7) v = true) : vi_Fp p l e R s m args below meth c Q cc D A0 H0 55 10 7 v := by
  obtain ⟨hx, hb, -, hown, hts⟩ := S
  exact vi_FpP (ty0 := tyX5) (T := TX5) (N := 14) (Ts := W0 :: vWall) hx hb hts hown hK (fun w h => List.mem_cons_of_mem _ (vmu_5 w h)) rfl (by decide) tyX5_ok nmX5 rfl (List.mem_cons_of_mem _ (vm_2 _ (List.mem_of_getElem? (i := 15) rfl))) rfl hv
theorem vfp_X5_58_10_6 {p : Program} {l : Launch} {e : Env} {R : Room} {s : State} {m : MethodId} {args : Array Value} {below : List Frame} {meth : Method} {c : Code} {Q : State → Prop} {cc : ByteArray} {D : va_G} {cy : Nat → ClassId} {nL : Nat} {W0 : Cond} {A0 : Nat → Prop} {H0 : Heap} {v : Value} (S : CallFix p m c cc nL s args (W0 :: vWall) RX5) (hK : va_K D vwCl (tyL cy) s) (hN : NL s) (hv : narrow (tyX5 6) v = v ∧ fits (tyX5 6) v = true) : vi_Fp p l e R s m args below meth c Q cc D A0 H0 58 10 6 v := by
  obtain ⟨hx, hb, -, hown, hts⟩ := S
  exact vi_FpP (ty0 := tyX5) (T := TX5) (N := 14) (Ts := W0 :: vWall) hx hb hts hown hK (fun w h => List.mem_cons_of_mem _ (vmu_5 w h)) rfl (by decide) tyX5_ok nmX5 rfl (List.mem_cons_of_mem _ (vm_2 _ (List.mem_of_getElem? (i := 16) rfl))) rfl hv
theorem vfp_X5_61_7_4 {p : Program} {l : Launch} {e : Env} {R : Room} {s : State} {m : MethodId} {args : Array Value} {below : List Frame} {meth : Method} {c : Code} {Q : State → Prop} {cc : ByteArray} {D : va_G} {cy : Nat → ClassId} {nL : Nat} {W0 : Cond} {A0 : Nat → Prop} {H0 : Heap} {v : Value} (S : CallFix p m c cc nL s args (W0 :: vWall) RX5) (hK : va_K D vwCl (tyL cy) s) (hN : NL s) (hv : narrow (tyX2 4) v = v ∧ fits (tyX2 4) v = true) : vi_Fp p l e R s m args below meth c Q cc D A0 H0 61 7 4 v := by
  obtain ⟨hx, hb, -, hown, hts⟩ := S
  exact vi_FpN (ty0 := tyX2) (T := TX2) (N := 9) (Ts := W0 :: vWall) hx hb hts hown hK (fun w h => List.mem_cons_of_mem _ (vmu_2 w h)) rfl (by decide) tyX2_ok nmX2 rfl hN nf_24 rfl hv
theorem vfp_X5_62_7_5 {p : Program} {l : Launch} {e : Env} {R : Room} {s : State} {m : MethodId} {args : Array Value} {below : List Frame} {meth : Method} {c : Code} {Q : State → Prop} {cc : ByteArray} {D : va_G} {cy : Nat → ClassId} {nL : Nat} {W0 : Cond} {A0 : Nat → Prop} {H0 : Heap} {v : Value} (S : CallFix p m c cc nL s args (W0 :: vWall) RX5) (hK : va_K D vwCl (tyL cy) s) (hN : NL s) (hv : narrow (tyX2 5) v = v ∧ fits (tyX2 5) v = true) : vi_Fp p l e R s m args below meth c Q cc D A0 H0 62 7 5 v := by
  obtain ⟨hx, hb, -, hown, hts⟩ := S
  exact vi_FpN (ty0 := tyX2) (T := TX2) (N := 9) (Ts := W0 :: vWall) hx hb hts hown hK (fun w h => List.mem_cons_of_mem _ (vmu_2 w h)) rfl (by decide) tyX2_ok nmX2 rfl hN nf_26 rfl hv
theorem vfp_X5_65_10_12 {p : Program} {l : Launch} {e : Env} {R : Room} {s : State} {m : MethodId} {args : Array Value} {below : List Frame} {meth : Method} {c : Code} {Q : State → Prop} {cc : ByteArray} {D : va_G} {cy : Nat → ClassId} {nL : Nat} {W0 : Cond} {A0 : Nat → Prop} {H0 : Heap} {v : Value} (S : CallFix p m c cc nL s args (W0 :: vWall) RX5) (hK : va_K D vwCl (tyL cy) s) (hN : NL s) (hv : narrow (tyX5 12) v = v ∧ fits (tyX5 12) v = true) : vi_Fp p l e R s m args below meth c Q cc D A0 H0 65 10 12 v := by
  obtain ⟨hx, hb, -, hown, hts⟩ := S
  exact vi_FpP (ty0 := tyX5) (T := TX5) (N := 14) (Ts := W0 :: vWall) hx hb hts hown hK (fun w h => List.mem_cons_of_mem _ (vmu_5 w h)) rfl (by decide) tyX5_ok nmX5 rfl (List.mem_cons_of_mem _ (vm_2 _ (List.mem_of_getElem? (i := 26) rfl))) rfl hv
theorem vfp_X5_68_10_13 {p : Program} {l : Launch} {e : Env} {R : Room} {s : State} {m : MethodId} {args : Array Value} {below : List Frame} {meth : Method} {c : Code} {Q : State → Prop} {cc : ByteArray} {D : va_G} {cy : Nat → ClassId} {nL : Nat} {W0 : Cond} {A0 : Nat → Prop} {H0 : Heap} {v : Value} (S : CallFix p m c cc nL s args (W0 :: vWall) RX5) (hK : va_K D vwCl (tyL cy) s) (hN : NL s) (hv : narrow (tyX5 13) v = v ∧ fits (tyX5 13) v = true) : vi_Fp p l e R s m args below meth c Q cc D A0 H0 68 10 13 v := by
  obtain ⟨hx, hb, -, hown, hts⟩ := S
  exact vi_FpP (ty0 := tyX5) (T := TX5) (N := 14) (Ts := W0 :: vWall) hx hb hts hown hK (fun w h => List.mem_cons_of_mem _ (vmu_5 w h)) rfl (by decide) tyX5_ok nmX5 rfl (List.mem_cons_of_mem _ (vm_2 _ (List.mem_of_getElem? (i := 28) rfl))) rfl hv
theorem vfp_X5_75_12_1 {p : Program} {l : Launch} {e : Env} {R : Room} {s : State} {m : MethodId} {args : Array Value} {below : List Frame} {meth : Method} {c : Code} {Q : State → Prop} {cc : ByteArray} {D : va_G} {cy : Nat → ClassId} {nL : Nat} {W0 : Cond} {A0 : Nat → Prop} {H0 : Heap} {v : Value} (S : CallFix p m c cc nL s args (W0 :: vWall) RX5) (hK : va_K D vwCl (tyL cy) s) (hN : NL s) (hv : narrow (tyX7 1) v = v ∧ fits (tyX7 1) v = true) : vi_Fp p l e R s m args below meth c Q cc D A0 H0 75 12 1 v := by
  obtain ⟨hx, hb, -, hown, hts⟩ := S
  exact vi_FpN (ty0 := tyX7) (T := TX7) (N := 6) (Ts := W0 :: vWall) hx hb hts hown hK (fun w h => List.mem_cons_of_mem _ (vmu_7 w h)) rfl (by decide) tyX7_ok nmX7 rfl hN nf_53 rfl hv
theorem vfp_X5_78_12_2 {p : Program} {l : Launch} {e : Env} {R : Room} {s : State} {m : MethodId} {args : Array Value} {below : List Frame} {meth : Method} {c : Code} {Q : State → Prop} {cc : ByteArray} {D : va_G} {cy : Nat → ClassId} {nL : Nat} {W0 : Cond} {A0 : Nat → Prop} {H0 : Heap} {v : Value} (S : CallFix p m c cc nL s args (W0 :: vWall) RX5) (hK : va_K D vwCl (tyL cy) s) (hN : NL s) (hv : narrow (tyX7 2) v = v ∧ fits (tyX7 2) v = true) : vi_Fp p l e R s m args below meth c Q cc D A0 H0 78 12 2 v := by
  obtain ⟨hx, hb, -, hown, hts⟩ := S
  exact vi_FpN (ty0 := tyX7) (T := TX7) (N := 6) (Ts := W0 :: vWall) hx hb hts hown hK (fun w h => List.mem_cons_of_mem _ (vmu_7 w h)) rfl (by decide) tyX7_ok nmX7 rfl hN nf_56 rfl hv
theorem vfp_X5_81_12_3 {p : Program} {l : Launch} {e : Env} {R : Room} {s : State} {m : MethodId} {args : Array Value} {below : List Frame} {meth : Method} {c : Code} {Q : State → Prop} {cc : ByteArray} {D : va_G} {cy : Nat → ClassId} {nL : Nat} {W0 : Cond} {A0 : Nat → Prop} {H0 : Heap} {v : Value} (S : CallFix p m c cc nL s args (W0 :: vWall) RX5) (hK : va_K D vwCl (tyL cy) s) (hN : NL s) (hv : narrow (tyX7 3) v = v ∧ fits (tyX7 3) v = true) : vi_Fp p l e R s m args below meth c Q cc D A0 H0 81 12 3 v := by
  obtain ⟨hx, hb, -, hown, hts⟩ := S
  exact vi_FpN (ty0 := tyX7) (T := TX7) (N := 6) (Ts := W0 :: vWall) hx hb hts hown hK (fun w h => List.mem_cons_of_mem _ (vmu_7 w h)) rfl (by decide) tyX7_ok nmX7 rfl hN nf_58 rfl hv
theorem vfp_X5_84_12_4 {p : Program} {l : Launch} {e : Env} {R : Room} {s : State} {m : MethodId} {args : Array Value} {below : List Frame} {meth : Method} {c : Code} {Q : State → Prop} {cc : ByteArray} {D : va_G} {cy : Nat → ClassId} {nL : Nat} {W0 : Cond} {A0 : Nat → Prop} {H0 : Heap} {v : Value} (S : CallFix p m c cc nL s args (W0 :: vWall) RX5) (hK : va_K D vwCl (tyL cy) s) (hN : NL s) (hv : narrow (tyX7 4) v = v ∧ fits (tyX7 4) v = true) : vi_Fp p l e R s m args below meth c Q cc D A0 H0 84 12 4 v := by
  obtain ⟨hx, hb, -, hown, hts⟩ := S
  exact vi_FpN (ty0 := tyX7) (T := TX7) (N := 6) (Ts := W0 :: vWall) hx hb hts hown hK (fun w h => List.mem_cons_of_mem _ (vmu_7 w h)) rfl (by decide) tyX7_ok nmX7 rfl hN nf_60 rfl hv
theorem vfp_X5_87_12_5 {p : Program} {l : Launch} {e : Env} {R : Room} {s : State} {m : MethodId} {args : Array Value} {below : List Frame} {meth : Method} {c : Code} {Q : State → Prop} {cc : ByteArray} {D : va_G} {cy : Nat → ClassId} {nL : Nat} {W0 : Cond} {A0 : Nat → Prop} {H0 : Heap} {v : Value} (S : CallFix p m c cc nL s args (W0 :: vWall) RX5) (hK : va_K D vwCl (tyL cy) s) (hN : NL s) (hv : narrow (tyX7 5) v = v ∧ fits (tyX7 5) v = true) : vi_Fp p l e R s m args below meth c Q cc D A0 H0 87 12 5 v := by
  obtain ⟨hx, hb, -, hown, hts⟩ := S
  exact vi_FpN (ty0 := tyX7) (T := TX7) (N := 6) (Ts := W0 :: vWall) hx hb hts hown hK (fun w h => List.mem_cons_of_mem _ (vmu_7 w h)) rfl (by decide) tyX7_ok nmX7 rfl hN nf_62 rfl hv
theorem vct_X5 {p : Program} {s : State} {m : MethodId} {args : Array Value} {c : Code} {cc : ByteArray} {nL : Nat} {W0 : Cond} (S : CallFix p m c cc nL s args (W0 :: vWall) RX5) : ∀ (i : Nat) (v : Int), (i, v) ∈ vCT_X5 → (Jvm.Cond.constant RX5 i (Int32.ofInt v)).before args s = true := by
  obtain ⟨-, -, -, -, hts⟩ := S
  have key : ∀ q ∈ vCT_X5, (Jvm.Cond.constant RX5 q.1 (Int32.ofInt q.2)).before args s = true := by
    exact fun q hq => by cases hq
  exact fun i v h => key (i, v) h
theorem vc2_X5 {p : Program} {s : State} {m : MethodId} {args : Array Value} {c : Code} {cc : ByteArray} {nL : Nat} {W0 : Cond} (S : CallFix p m c cc nL s args (W0 :: vWall) RX5) : ∀ (i : Nat) (v : Int), (i, v) ∈ vC2_X5 → ∃ x : Int64, (Jvm.Cond.constantLong RX5 i x).before args s = true := by
  obtain ⟨-, -, -, -, hts⟩ := S
  have key : ∀ q ∈ vC2_X5, ∃ x : Int64, (Jvm.Cond.constantLong RX5 q.1 x).before args s = true := by
    exact fun q hq => by cases hq
  exact fun i v h => key (i, v) h
def vFT_X8 : List (Nat × Nat × Nat) := [(9, 13, 0), (15, 13, 1), (18, 13, 3), (21, 13, 2), (25, 13, 4)]
def vCT_X8 : List (Nat × Int) := []
def vC2_X8 : List (Nat × Int) := []
theorem vfg_X8 {p : Program} {l : Launch} {e : Env} {R : Room} {s : State} {m : MethodId} {args : Array Value} {below : List Frame} {meth : Method} {c : Code} {Q : State → Prop} {cc : ByteArray} {D : va_G} {cy : Nat → ClassId} {nL : Nat} {W0 : Cond} (S : CallFix p m c cc nL s args (W0 :: vWall) RX8) (hK : va_K D vwCl (tyL cy) s) (hN : NL s) : ∀ (i ci k : Nat), (i, ci, k) ∈ vFT_X8 → vi_Fg p l e R s m args below meth c Q cc D i ci k := by
  obtain ⟨hx, hb, -, hown, hts⟩ := S
  have key : ∀ q ∈ vFT_X8, vi_Fg p l e R s m args below meth c Q cc D q.1 q.2.1 q.2.2 := by
    refine List.forall_mem_cons.mpr ⟨vi_FgP (T := TX8) (N := 5) (Ts := W0 :: vWall) hx hb hts hown hK (fun w h => List.mem_cons_of_mem _ (vmu_8 w h)) rfl (by decide) (List.mem_cons_of_mem _ (vm_2 _ (List.mem_of_getElem? (i := 37) rfl))) rfl, ?_⟩
    refine List.forall_mem_cons.mpr ⟨vi_FgP (T := TX8) (N := 5) (Ts := W0 :: vWall) hx hb hts hown hK (fun w h => List.mem_cons_of_mem _ (vmu_8 w h)) rfl (by decide) (List.mem_cons_of_mem _ (vm_2 _ (List.mem_of_getElem? (i := 38) rfl))) rfl, ?_⟩
    refine List.forall_mem_cons.mpr ⟨vi_FgP (T := TX8) (N := 5) (Ts := W0 :: vWall) hx hb hts hown hK (fun w h => List.mem_cons_of_mem _ (vmu_8 w h)) rfl (by decide) (List.mem_cons_of_mem _ (vm_2 _ (List.mem_of_getElem? (i := 39) rfl))) rfl, ?_⟩
    refine List.forall_mem_cons.mpr ⟨vi_FgP (T := TX8) (N := 5) (Ts := W0 :: vWall) hx hb hts hown hK (fun w h => List.mem_cons_of_mem _ (vmu_8 w h)) rfl (by decide) (List.mem_cons_of_mem _ (vm_3 _ (List.mem_of_getElem? (i := 1) rfl))) rfl, ?_⟩
    refine List.forall_mem_cons.mpr ⟨vi_FgP (T := TX8) (N := 5) (Ts := W0 :: vWall) hx hb hts hown hK (fun w h => List.mem_cons_of_mem _ (vmu_8 w h)) rfl (by decide) (List.mem_cons_of_mem _ (vm_3 _ (List.mem_of_getElem? (i := 4) rfl))) rfl, ?_⟩
    exact fun q hq => by cases hq
  exact fun i ci k h => key (i, ci, k) h
theorem vfp_X8_21_13_2 {p : Program} {l : Launch} {e : Env} {R : Room} {s : State} {m : MethodId} {args : Array Value} {below : List Frame} {meth : Method} {c : Code} {Q : State → Prop} {cc : ByteArray} {D : va_G} {cy : Nat → ClassId} {nL : Nat} {W0 : Cond} {A0 : Nat → Prop} {H0 : Heap} {v : Value} (S : CallFix p m c cc nL s args (W0 :: vWall) RX8) (hK : va_K D vwCl (tyL cy) s) (hN : NL s) (hv : narrow (tyX8 2) v = v ∧ fits (tyX8 2) v = true) : vi_Fp p l e R s m args below meth c Q cc D A0 H0 21 13 2 v := by
  obtain ⟨hx, hb, -, hown, hts⟩ := S
  exact vi_FpP (ty0 := tyX8) (T := TX8) (N := 5) (Ts := W0 :: vWall) hx hb hts hown hK (fun w h => List.mem_cons_of_mem _ (vmu_8 w h)) rfl (by decide) tyX8_ok nmX8 rfl (List.mem_cons_of_mem _ (vm_3 _ (List.mem_of_getElem? (i := 1) rfl))) rfl hv
theorem vfp_X8_25_13_4 {p : Program} {l : Launch} {e : Env} {R : Room} {s : State} {m : MethodId} {args : Array Value} {below : List Frame} {meth : Method} {c : Code} {Q : State → Prop} {cc : ByteArray} {D : va_G} {cy : Nat → ClassId} {nL : Nat} {W0 : Cond} {A0 : Nat → Prop} {H0 : Heap} {v : Value} (S : CallFix p m c cc nL s args (W0 :: vWall) RX8) (hK : va_K D vwCl (tyL cy) s) (hN : NL s) (hv : narrow (tyX8 4) v = v ∧ fits (tyX8 4) v = true) : vi_Fp p l e R s m args below meth c Q cc D A0 H0 25 13 4 v := by
  obtain ⟨hx, hb, -, hown, hts⟩ := S
  exact vi_FpP (ty0 := tyX8) (T := TX8) (N := 5) (Ts := W0 :: vWall) hx hb hts hown hK (fun w h => List.mem_cons_of_mem _ (vmu_8 w h)) rfl (by decide) tyX8_ok nmX8 rfl (List.mem_cons_of_mem _ (vm_3 _ (List.mem_of_getElem? (i := 4) rfl))) rfl hv
theorem vct_X8 {p : Program} {s : State} {m : MethodId} {args : Array Value} {c : Code} {cc : ByteArray} {nL : Nat} {W0 : Cond} (S : CallFix p m c cc nL s args (W0 :: vWall) RX8) : ∀ (i : Nat) (v : Int), (i, v) ∈ vCT_X8 → (Jvm.Cond.constant RX8 i (Int32.ofInt v)).before args s = true := by
  obtain ⟨-, -, -, -, hts⟩ := S
  have key : ∀ q ∈ vCT_X8, (Jvm.Cond.constant RX8 q.1 (Int32.ofInt q.2)).before args s = true := by
    exact fun q hq => by cases hq
  exact fun i v h => key (i, v) h
theorem vc2_X8 {p : Program} {s : State} {m : MethodId} {args : Array Value} {c : Code} {cc : ByteArray} {nL : Nat} {W0 : Cond} (S : CallFix p m c cc nL s args (W0 :: vWall) RX8) : ∀ (i : Nat) (v : Int), (i, v) ∈ vC2_X8 → ∃ x : Int64, (Jvm.Cond.constantLong RX8 i x).before args s = true := by
  obtain ⟨-, -, -, -, hts⟩ := S
  have key : ∀ q ∈ vC2_X8, ∃ x : Int64, (Jvm.Cond.constantLong RX8 q.1 x).before args s = true := by
    exact fun q hq => by cases hq
  exact fun i v h => key (i, v) h
def vFT_X9 : List (Nat × Nat × Nat) := [(11, 14, 0), (15, 14, 2), (19, 14, 3), (24, 14, 5), (28, 14, 6), (35, 14, 8), (39, 14, 9), (45, 14, 10), (52, 14, 11), (59, 14, 12), (67, 6, 2), (70, 6, 4), (74, 6, 7), (78, 6, 10), (81, 14, 1), (106, 6, 1), (109, 6, 11), (112, 6, 3), (115, 6, 6), (118, 6, 5), (121, 6, 0), (130, 6, 19), (134, 7, 0), (144, 7, 1), (147, 7, 3), (171, 6, 8), (175, 6, 9), (182, 6, 12), (196, 6, 13), (226, 6, 14), (231, 14, 4), (252, 14, 7), (255, 6, 16), (266, 5, 2), (296, 7, 2), (326, 10, 5), (333, 10, 0), (344, 13, 0), (347, 13, 1), (350, 10, 2), (356, 10, 13), (365, 12, 0), (377, 12, 3), (380, 10, 8), (388, 12, 2), (395, 7, 7), (399, 6, 18), (403, 7, 8), (411, 9, 1), (418, 11, 0), (427, 10, 10), (446, 13, 2), (449, 13, 3), (452, 8, 4), (459, 8, 8), (464, 8, 9), (467, 8, 5), (474, 5, 3), (481, 11, 1), (484, 11, 2), (489, 6, 15), (492, 10, 9), (543, 6, 17), (546, 10, 1), (574, 10, 3), (590, 12, 1), (594, 7, 5), (616, 10, 7), (623, 12, 4), (626, 12, 5), (629, 7, 6), (640, 7, 4), (643, 10, 6)]
def vCT_X9 : List (Nat × Int) := [(277, 65535), (282, 32773)]
def vC2_X9 : List (Nat × Int) := [(511, 7), (513, 31)]
theorem vfg_X9 {p : Program} {l : Launch} {e : Env} {R : Room} {s : State} {m : MethodId} {args : Array Value} {below : List Frame} {meth : Method} {c : Code} {Q : State → Prop} {cc : ByteArray} {D : va_G} {cy : Nat → ClassId} {nL : Nat} {W0 : Cond} (S : CallFix p m c cc nL s args (W0 :: vWall) RX9) (hK : va_K D vwCl (tyL cy) s) (hN : NL s) : ∀ (i ci k : Nat), (i, ci, k) ∈ vFT_X9 → vi_Fg p l e R s m args below meth c Q cc D i ci k := by
  obtain ⟨hx, hb, -, hown, hts⟩ := S
  have key : ∀ q ∈ vFT_X9, vi_Fg p l e R s m args below meth c Q cc D q.1 q.2.1 q.2.2 := by
    refine List.forall_mem_cons.mpr ⟨vi_FgP (T := TX9) (N := 13) (Ts := W0 :: vWall) hx hb hts hown hK (fun w h => List.mem_cons_of_mem _ (vmu_9 w h)) rfl (by decide) (List.mem_cons_of_mem _ (vm_3 _ (List.mem_of_getElem? (i := 21) rfl))) rfl, ?_⟩
    refine List.forall_mem_cons.mpr ⟨vi_FgP (T := TX9) (N := 13) (Ts := W0 :: vWall) hx hb hts hown hK (fun w h => List.mem_cons_of_mem _ (vmu_9 w h)) rfl (by decide) (List.mem_cons_of_mem _ (vm_3 _ (List.mem_of_getElem? (i := 22) rfl))) rfl, ?_⟩
    refine List.forall_mem_cons.mpr ⟨vi_FgP (T := TX9) (N := 13) (Ts := W0 :: vWall) hx hb hts hown hK (fun w h => List.mem_cons_of_mem _ (vmu_9 w h)) rfl (by decide) (List.mem_cons_of_mem _ (vm_3 _ (List.mem_of_getElem? (i := 23) rfl))) rfl, ?_⟩
    refine List.forall_mem_cons.mpr ⟨vi_FgP (T := TX9) (N := 13) (Ts := W0 :: vWall) hx hb hts hown hK (fun w h => List.mem_cons_of_mem _ (vmu_9 w h)) rfl (by decide) (List.mem_cons_of_mem _ (vm_3 _ (List.mem_of_getElem? (i := 25) rfl))) rfl, ?_⟩
    refine List.forall_mem_cons.mpr ⟨vi_FgP (T := TX9) (N := 13) (Ts := W0 :: vWall) hx hb hts hown hK (fun w h => List.mem_cons_of_mem _ (vmu_9 w h)) rfl (by decide) (List.mem_cons_of_mem _ (vm_3 _ (List.mem_of_getElem? (i := 26) rfl))) rfl, ?_⟩
    refine List.forall_mem_cons.mpr ⟨vi_FgP (T := TX9) (N := 13) (Ts := W0 :: vWall) hx hb hts hown hK (fun w h => List.mem_cons_of_mem _ (vmu_9 w h)) rfl (by decide) (List.mem_cons_of_mem _ (vm_3 _ (List.mem_of_getElem? (i := 28) rfl))) rfl, ?_⟩
    refine List.forall_mem_cons.mpr ⟨vi_FgP (T := TX9) (N := 13) (Ts := W0 :: vWall) hx hb hts hown hK (fun w h => List.mem_cons_of_mem _ (vmu_9 w h)) rfl (by decide) (List.mem_cons_of_mem _ (vm_3 _ (List.mem_of_getElem? (i := 29) rfl))) rfl, ?_⟩
    refine List.forall_mem_cons.mpr ⟨vi_FgP (T := TX9) (N := 13) (Ts := W0 :: vWall) hx hb hts hown hK (fun w h => List.mem_cons_of_mem _ (vmu_9 w h)) rfl (by decide) (List.mem_cons_of_mem _ (vm_3 _ (List.mem_of_getElem? (i := 32) rfl))) rfl, ?_⟩
    refine List.forall_mem_cons.mpr ⟨vi_FgP (T := TX9) (N := 13) (Ts := W0 :: vWall) hx hb hts hown hK (fun w h => List.mem_cons_of_mem _ (vmu_9 w h)) rfl (by decide) (List.mem_cons_of_mem _ (vm_3 _ (List.mem_of_getElem? (i := 36) rfl))) rfl, ?_⟩
    refine List.forall_mem_cons.mpr ⟨vi_FgP (T := TX9) (N := 13) (Ts := W0 :: vWall) hx hb hts hown hK (fun w h => List.mem_cons_of_mem _ (vmu_9 w h)) rfl (by decide) (List.mem_cons_of_mem _ (vm_4 _ (List.mem_of_getElem? (i := 0) rfl))) rfl, ?_⟩
    refine List.forall_mem_cons.mpr ⟨vi_FgN (T := TX1) (N := 20) (Ts := W0 :: vWall) hx hb hts hown hK (fun w h => List.mem_cons_of_mem _ (vmu_1 w h)) rfl (by decide) hN nf_33 rfl, ?_⟩
    refine List.forall_mem_cons.mpr ⟨vi_FgN (T := TX1) (N := 20) (Ts := W0 :: vWall) hx hb hts hown hK (fun w h => List.mem_cons_of_mem _ (vmu_1 w h)) rfl (by decide) hN nf_35 rfl, ?_⟩
    refine List.forall_mem_cons.mpr ⟨vi_FgN (T := TX1) (N := 20) (Ts := W0 :: vWall) hx hb hts hown hK (fun w h => List.mem_cons_of_mem _ (vmu_1 w h)) rfl (by decide) hN nf_38 rfl, ?_⟩
    refine List.forall_mem_cons.mpr ⟨vi_FgN (T := TX1) (N := 20) (Ts := W0 :: vWall) hx hb hts hown hK (fun w h => List.mem_cons_of_mem _ (vmu_1 w h)) rfl (by decide) hN nf_41 rfl, ?_⟩
    refine List.forall_mem_cons.mpr ⟨vi_FgP (T := TX9) (N := 13) (Ts := W0 :: vWall) hx hb hts hown hK (fun w h => List.mem_cons_of_mem _ (vmu_9 w h)) rfl (by decide) (List.mem_cons_of_mem _ (vm_4 _ (List.mem_of_getElem? (i := 4) rfl))) rfl, ?_⟩
    refine List.forall_mem_cons.mpr ⟨vi_FgN (T := TX1) (N := 20) (Ts := W0 :: vWall) hx hb hts hown hK (fun w h => List.mem_cons_of_mem _ (vmu_1 w h)) rfl (by decide) hN nf_32 rfl, ?_⟩
    refine List.forall_mem_cons.mpr ⟨vi_FgN (T := TX1) (N := 20) (Ts := W0 :: vWall) hx hb hts hown hK (fun w h => List.mem_cons_of_mem _ (vmu_1 w h)) rfl (by decide) hN nf_42 rfl, ?_⟩
    refine List.forall_mem_cons.mpr ⟨vi_FgN (T := TX1) (N := 20) (Ts := W0 :: vWall) hx hb hts hown hK (fun w h => List.mem_cons_of_mem _ (vmu_1 w h)) rfl (by decide) hN nf_34 rfl, ?_⟩
    refine List.forall_mem_cons.mpr ⟨vi_FgN (T := TX1) (N := 20) (Ts := W0 :: vWall) hx hb hts hown hK (fun w h => List.mem_cons_of_mem _ (vmu_1 w h)) rfl (by decide) hN nf_37 rfl, ?_⟩
    refine List.forall_mem_cons.mpr ⟨vi_FgN (T := TX1) (N := 20) (Ts := W0 :: vWall) hx hb hts hown hK (fun w h => List.mem_cons_of_mem _ (vmu_1 w h)) rfl (by decide) hN nf_36 rfl, ?_⟩
    refine List.forall_mem_cons.mpr ⟨vi_FgN (T := TX1) (N := 20) (Ts := W0 :: vWall) hx hb hts hown hK (fun w h => List.mem_cons_of_mem _ (vmu_1 w h)) rfl (by decide) hN nf_31 rfl, ?_⟩
    refine List.forall_mem_cons.mpr ⟨vi_FgN (T := TX1) (N := 20) (Ts := W0 :: vWall) hx hb hts hown hK (fun w h => List.mem_cons_of_mem _ (vmu_1 w h)) rfl (by decide) hN nf_50 rfl, ?_⟩
    refine List.forall_mem_cons.mpr ⟨vi_FgN (T := TX2) (N := 9) (Ts := W0 :: vWall) hx hb hts hown hK (fun w h => List.mem_cons_of_mem _ (vmu_2 w h)) rfl (by decide) hN nf_19 rfl, ?_⟩
    refine List.forall_mem_cons.mpr ⟨vi_FgN (T := TX2) (N := 9) (Ts := W0 :: vWall) hx hb hts hown hK (fun w h => List.mem_cons_of_mem _ (vmu_2 w h)) rfl (by decide) hN nf_20 rfl, ?_⟩
    refine List.forall_mem_cons.mpr ⟨vi_FgN (T := TX2) (N := 9) (Ts := W0 :: vWall) hx hb hts hown hK (fun w h => List.mem_cons_of_mem _ (vmu_2 w h)) rfl (by decide) hN nf_23 rfl, ?_⟩
    refine List.forall_mem_cons.mpr ⟨vi_FgN (T := TX1) (N := 20) (Ts := W0 :: vWall) hx hb hts hown hK (fun w h => List.mem_cons_of_mem _ (vmu_1 w h)) rfl (by decide) hN nf_39 rfl, ?_⟩
    refine List.forall_mem_cons.mpr ⟨vi_FgN (T := TX1) (N := 20) (Ts := W0 :: vWall) hx hb hts hown hK (fun w h => List.mem_cons_of_mem _ (vmu_1 w h)) rfl (by decide) hN nf_40 rfl, ?_⟩
    refine List.forall_mem_cons.mpr ⟨vi_FgN (T := TX1) (N := 20) (Ts := W0 :: vWall) hx hb hts hown hK (fun w h => List.mem_cons_of_mem _ (vmu_1 w h)) rfl (by decide) hN nf_43 rfl, ?_⟩
    refine List.forall_mem_cons.mpr ⟨vi_FgN (T := TX1) (N := 20) (Ts := W0 :: vWall) hx hb hts hown hK (fun w h => List.mem_cons_of_mem _ (vmu_1 w h)) rfl (by decide) hN nf_44 rfl, ?_⟩
    refine List.forall_mem_cons.mpr ⟨vi_FgN (T := TX1) (N := 20) (Ts := W0 :: vWall) hx hb hts hown hK (fun w h => List.mem_cons_of_mem _ (vmu_1 w h)) rfl (by decide) hN nf_45 rfl, ?_⟩
    refine List.forall_mem_cons.mpr ⟨vi_FgP (T := TX9) (N := 13) (Ts := W0 :: vWall) hx hb hts hown hK (fun w h => List.mem_cons_of_mem _ (vmu_9 w h)) rfl (by decide) (List.mem_cons_of_mem _ (vm_6 _ (List.mem_of_getElem? (i := 25) rfl))) rfl, ?_⟩
    refine List.forall_mem_cons.mpr ⟨vi_FgP (T := TX9) (N := 13) (Ts := W0 :: vWall) hx hb hts hown hK (fun w h => List.mem_cons_of_mem _ (vmu_9 w h)) rfl (by decide) (List.mem_cons_of_mem _ (vm_7 _ (List.mem_of_getElem? (i := 22) rfl))) rfl, ?_⟩
    refine List.forall_mem_cons.mpr ⟨vi_FgN (T := TX1) (N := 20) (Ts := W0 :: vWall) hx hb hts hown hK (fun w h => List.mem_cons_of_mem _ (vmu_1 w h)) rfl (by decide) hN nf_47 rfl, ?_⟩
    refine List.forall_mem_cons.mpr ⟨vi_FgN (T := TX0) (N := 4) (Ts := W0 :: vWall) hx hb hts hown hK (fun w h => List.mem_cons_of_mem _ (vmu_0 w h)) rfl (by decide) hN nf_0 rfl, ?_⟩
    refine List.forall_mem_cons.mpr ⟨vi_FgN (T := TX2) (N := 9) (Ts := W0 :: vWall) hx hb hts hown hK (fun w h => List.mem_cons_of_mem _ (vmu_2 w h)) rfl (by decide) hN nf_22 rfl, ?_⟩
    refine List.forall_mem_cons.mpr ⟨vi_FgN (T := TX5) (N := 14) (Ts := W0 :: vWall) hx hb hts hown hK (fun w h => List.mem_cons_of_mem _ (vmu_5 w h)) rfl (by decide) hN nf_69 rfl, ?_⟩
    refine List.forall_mem_cons.mpr ⟨vi_FgN (T := TX5) (N := 14) (Ts := W0 :: vWall) hx hb hts hown hK (fun w h => List.mem_cons_of_mem _ (vmu_5 w h)) rfl (by decide) hN nf_64 rfl, ?_⟩
    refine List.forall_mem_cons.mpr ⟨vi_FgN (T := TX8) (N := 5) (Ts := W0 :: vWall) hx hb hts hown hK (fun w h => List.mem_cons_of_mem _ (vmu_8 w h)) rfl (by decide) hN nf_2 rfl, ?_⟩
    refine List.forall_mem_cons.mpr ⟨vi_FgN (T := TX8) (N := 5) (Ts := W0 :: vWall) hx hb hts hown hK (fun w h => List.mem_cons_of_mem _ (vmu_8 w h)) rfl (by decide) hN nf_3 rfl, ?_⟩
    refine List.forall_mem_cons.mpr ⟨vi_FgN (T := TX5) (N := 14) (Ts := W0 :: vWall) hx hb hts hown hK (fun w h => List.mem_cons_of_mem _ (vmu_5 w h)) rfl (by decide) hN nf_66 rfl, ?_⟩
    refine List.forall_mem_cons.mpr ⟨vi_FgN (T := TX5) (N := 14) (Ts := W0 :: vWall) hx hb hts hown hK (fun w h => List.mem_cons_of_mem _ (vmu_5 w h)) rfl (by decide) hN nf_75 rfl, ?_⟩
    refine List.forall_mem_cons.mpr ⟨vi_FgN (T := TX7) (N := 6) (Ts := W0 :: vWall) hx hb hts hown hK (fun w h => List.mem_cons_of_mem _ (vmu_7 w h)) rfl (by decide) hN nf_52 rfl, ?_⟩
    refine List.forall_mem_cons.mpr ⟨vi_FgN (T := TX7) (N := 6) (Ts := W0 :: vWall) hx hb hts hown hK (fun w h => List.mem_cons_of_mem _ (vmu_7 w h)) rfl (by decide) hN nf_59 rfl, ?_⟩
    refine List.forall_mem_cons.mpr ⟨vi_FgN (T := TX5) (N := 14) (Ts := W0 :: vWall) hx hb hts hown hK (fun w h => List.mem_cons_of_mem _ (vmu_5 w h)) rfl (by decide) hN nf_72 rfl, ?_⟩
    refine List.forall_mem_cons.mpr ⟨vi_FgN (T := TX7) (N := 6) (Ts := W0 :: vWall) hx hb hts hown hK (fun w h => List.mem_cons_of_mem _ (vmu_7 w h)) rfl (by decide) hN nf_57 rfl, ?_⟩
    refine List.forall_mem_cons.mpr ⟨vi_FgN (T := TX2) (N := 9) (Ts := W0 :: vWall) hx hb hts hown hK (fun w h => List.mem_cons_of_mem _ (vmu_2 w h)) rfl (by decide) hN nf_29 rfl, ?_⟩
    refine List.forall_mem_cons.mpr ⟨vi_FgN (T := TX1) (N := 20) (Ts := W0 :: vWall) hx hb hts hown hK (fun w h => List.mem_cons_of_mem _ (vmu_1 w h)) rfl (by decide) hN nf_49 rfl, ?_⟩
    refine List.forall_mem_cons.mpr ⟨vi_FgN (T := TX2) (N := 9) (Ts := W0 :: vWall) hx hb hts hown hK (fun w h => List.mem_cons_of_mem _ (vmu_2 w h)) rfl (by decide) hN nf_30 rfl, ?_⟩
    refine List.forall_mem_cons.mpr ⟨vi_FgN (T := TX4) (N := 2) (Ts := W0 :: vWall) hx hb hts hown hK (fun w h => List.mem_cons_of_mem _ (vmu_4 w h)) rfl (by decide) hN nf_17 rfl, ?_⟩
    refine List.forall_mem_cons.mpr ⟨vi_FgN (T := TX6) (N := 3) (Ts := W0 :: vWall) hx hb hts hown hK (fun w h => List.mem_cons_of_mem _ (vmu_6 w h)) rfl (by decide) hN nf_13 rfl, ?_⟩
    refine List.forall_mem_cons.mpr ⟨vi_FgN (T := TX5) (N := 14) (Ts := W0 :: vWall) hx hb hts hown hK (fun w h => List.mem_cons_of_mem _ (vmu_5 w h)) rfl (by decide) hN nf_74 rfl, ?_⟩
    refine List.forall_mem_cons.mpr ⟨vi_FgN (T := TX8) (N := 5) (Ts := W0 :: vWall) hx hb hts hown hK (fun w h => List.mem_cons_of_mem _ (vmu_8 w h)) rfl (by decide) hN nf_4 rfl, ?_⟩
    refine List.forall_mem_cons.mpr ⟨vi_FgN (T := TX8) (N := 5) (Ts := W0 :: vWall) hx hb hts hown hK (fun w h => List.mem_cons_of_mem _ (vmu_8 w h)) rfl (by decide) hN nf_5 rfl, ?_⟩
    refine List.forall_mem_cons.mpr ⟨vi_FgN (T := TX3) (N := 10) (Ts := W0 :: vWall) hx hb hts hown hK (fun w h => List.mem_cons_of_mem _ (vmu_3 w h)) rfl (by decide) hN nf_7 rfl, ?_⟩
    refine List.forall_mem_cons.mpr ⟨vi_FgN (T := TX3) (N := 10) (Ts := W0 :: vWall) hx hb hts hown hK (fun w h => List.mem_cons_of_mem _ (vmu_3 w h)) rfl (by decide) hN nf_11 rfl, ?_⟩
    refine List.forall_mem_cons.mpr ⟨vi_FgN (T := TX3) (N := 10) (Ts := W0 :: vWall) hx hb hts hown hK (fun w h => List.mem_cons_of_mem _ (vmu_3 w h)) rfl (by decide) hN nf_12 rfl, ?_⟩
    refine List.forall_mem_cons.mpr ⟨vi_FgN (T := TX3) (N := 10) (Ts := W0 :: vWall) hx hb hts hown hK (fun w h => List.mem_cons_of_mem _ (vmu_3 w h)) rfl (by decide) hN nf_8 rfl, ?_⟩
    refine List.forall_mem_cons.mpr ⟨vi_FgN (T := TX0) (N := 4) (Ts := W0 :: vWall) hx hb hts hown hK (fun w h => List.mem_cons_of_mem _ (vmu_0 w h)) rfl (by decide) hN nf_1 rfl, ?_⟩
    refine List.forall_mem_cons.mpr ⟨vi_FgN (T := TX6) (N := 3) (Ts := W0 :: vWall) hx hb hts hown hK (fun w h => List.mem_cons_of_mem _ (vmu_6 w h)) rfl (by decide) hN nf_14 rfl, ?_⟩
    refine List.forall_mem_cons.mpr ⟨vi_FgN (T := TX6) (N := 3) (Ts := W0 :: vWall) hx hb hts hown hK (fun w h => List.mem_cons_of_mem _ (vmu_6 w h)) rfl (by decide) hN nf_15 rfl, ?_⟩
    refine List.forall_mem_cons.mpr ⟨vi_FgN (T := TX1) (N := 20) (Ts := W0 :: vWall) hx hb hts hown hK (fun w h => List.mem_cons_of_mem _ (vmu_1 w h)) rfl (by decide) hN nf_46 rfl, ?_⟩
    refine List.forall_mem_cons.mpr ⟨vi_FgN (T := TX5) (N := 14) (Ts := W0 :: vWall) hx hb hts hown hK (fun w h => List.mem_cons_of_mem _ (vmu_5 w h)) rfl (by decide) hN nf_73 rfl, ?_⟩
    refine List.forall_mem_cons.mpr ⟨vi_FgN (T := TX1) (N := 20) (Ts := W0 :: vWall) hx hb hts hown hK (fun w h => List.mem_cons_of_mem _ (vmu_1 w h)) rfl (by decide) hN nf_48 rfl, ?_⟩
    refine List.forall_mem_cons.mpr ⟨vi_FgN (T := TX5) (N := 14) (Ts := W0 :: vWall) hx hb hts hown hK (fun w h => List.mem_cons_of_mem _ (vmu_5 w h)) rfl (by decide) hN nf_65 rfl, ?_⟩
    refine List.forall_mem_cons.mpr ⟨vi_FgN (T := TX5) (N := 14) (Ts := W0 :: vWall) hx hb hts hown hK (fun w h => List.mem_cons_of_mem _ (vmu_5 w h)) rfl (by decide) hN nf_67 rfl, ?_⟩
    refine List.forall_mem_cons.mpr ⟨vi_FgN (T := TX7) (N := 6) (Ts := W0 :: vWall) hx hb hts hown hK (fun w h => List.mem_cons_of_mem _ (vmu_7 w h)) rfl (by decide) hN nf_54 rfl, ?_⟩
    refine List.forall_mem_cons.mpr ⟨vi_FgN (T := TX2) (N := 9) (Ts := W0 :: vWall) hx hb hts hown hK (fun w h => List.mem_cons_of_mem _ (vmu_2 w h)) rfl (by decide) hN nf_27 rfl, ?_⟩
    refine List.forall_mem_cons.mpr ⟨vi_FgN (T := TX5) (N := 14) (Ts := W0 :: vWall) hx hb hts hown hK (fun w h => List.mem_cons_of_mem _ (vmu_5 w h)) rfl (by decide) hN nf_71 rfl, ?_⟩
    refine List.forall_mem_cons.mpr ⟨vi_FgN (T := TX7) (N := 6) (Ts := W0 :: vWall) hx hb hts hown hK (fun w h => List.mem_cons_of_mem _ (vmu_7 w h)) rfl (by decide) hN nf_61 rfl, ?_⟩
    refine List.forall_mem_cons.mpr ⟨vi_FgN (T := TX7) (N := 6) (Ts := W0 :: vWall) hx hb hts hown hK (fun w h => List.mem_cons_of_mem _ (vmu_7 w h)) rfl (by decide) hN nf_63 rfl, ?_⟩
    refine List.forall_mem_cons.mpr ⟨vi_FgN (T := TX2) (N := 9) (Ts := W0 :: vWall) hx hb hts hown hK (fun w h => List.mem_cons_of_mem _ (vmu_2 w h)) rfl (by decide) hN nf_28 rfl, ?_⟩
    refine List.forall_mem_cons.mpr ⟨vi_FgN (T := TX2) (N := 9) (Ts := W0 :: vWall) hx hb hts hown hK (fun w h => List.mem_cons_of_mem _ (vmu_2 w h)) rfl (by decide) hN nf_25 rfl, ?_⟩
    refine List.forall_mem_cons.mpr ⟨vi_FgN (T := TX5) (N := 14) (Ts := W0 :: vWall) hx hb hts hown hK (fun w h => List.mem_cons_of_mem _ (vmu_5 w h)) rfl (by decide) hN nf_70 rfl, ?_⟩
    exact fun q hq => by cases hq
  exact fun i ci k h => key (i, ci, k) h
theorem vfp_X9_28_14_6 {p : Program} {l : Launch} {e : Env} {R : Room} {s : State} {m : MethodId} {args : Array Value} {below : List Frame} {meth : Method} {c : Code} {Q : State → Prop} {cc : ByteArray} {D : va_G} {cy : Nat → ClassId} {nL : Nat} {W0 : Cond} {A0 : Nat → Prop} {H0 : Heap} {v : Value} (S : CallFix p m c cc nL s args (W0 :: vWall) RX9) (hK : va_K D vwCl (tyL cy) s) (hN : NL s) (hv : narrow (tyX9 6) v = v ∧ fits (tyX9 6) v = true) : vi_Fp p l e R s m args below meth c Q cc D A0 H0 28 14 6 v := by
  obtain ⟨hx, hb, -, hown, hts⟩ := S
  exact vi_FpP (ty0 := tyX9) (T := TX9) (N := 13) (Ts := W0 :: vWall) hx hb hts hown hK (fun w h => List.mem_cons_of_mem _ (vmu_9 w h)) rfl (by decide) tyX9_ok nmX9 rfl (List.mem_cons_of_mem _ (vm_3 _ (List.mem_of_getElem? (i := 26) rfl))) rfl hv
theorem vfp_X9_67_6_2 {p : Program} {l : Launch} {e : Env} {R : Room} {s : State} {m : MethodId} {args : Array Value} {below : List Frame} {meth : Method} {c : Code} {Q : State → Prop} {cc : ByteArray} {D : va_G} {cy : Nat → ClassId} {nL : Nat} {W0 : Cond} {A0 : Nat → Prop} {H0 : Heap} {v : Value} (S : CallFix p m c cc nL s args (W0 :: vWall) RX9) (hK : va_K D vwCl (tyL cy) s) (hN : NL s) (hv : narrow (tyX1 2) v = v ∧ fits (tyX1 2) v = true) : vi_Fp p l e R s m args below meth c Q cc D A0 H0 67 6 2 v := by
  obtain ⟨hx, hb, -, hown, hts⟩ := S
  exact vi_FpN (ty0 := tyX1) (T := TX1) (N := 20) (Ts := W0 :: vWall) hx hb hts hown hK (fun w h => List.mem_cons_of_mem _ (vmu_1 w h)) rfl (by decide) tyX1_ok nmX1 rfl hN nf_33 rfl hv
theorem vfp_X9_70_6_4 {p : Program} {l : Launch} {e : Env} {R : Room} {s : State} {m : MethodId} {args : Array Value} {below : List Frame} {meth : Method} {c : Code} {Q : State → Prop} {cc : ByteArray} {D : va_G} {cy : Nat → ClassId} {nL : Nat} {W0 : Cond} {A0 : Nat → Prop} {H0 : Heap} {v : Value} (S : CallFix p m c cc nL s args (W0 :: vWall) RX9) (hK : va_K D vwCl (tyL cy) s) (hN : NL s) (hv : narrow (tyX1 4) v = v ∧ fits (tyX1 4) v = true) : vi_Fp p l e R s m args below meth c Q cc D A0 H0 70 6 4 v := by
  obtain ⟨hx, hb, -, hown, hts⟩ := S
  exact vi_FpN (ty0 := tyX1) (T := TX1) (N := 20) (Ts := W0 :: vWall) hx hb hts hown hK (fun w h => List.mem_cons_of_mem _ (vmu_1 w h)) rfl (by decide) tyX1_ok nmX1 rfl hN nf_35 rfl hv
theorem vfp_X9_74_6_7 {p : Program} {l : Launch} {e : Env} {R : Room} {s : State} {m : MethodId} {args : Array Value} {below : List Frame} {meth : Method} {c : Code} {Q : State → Prop} {cc : ByteArray} {D : va_G} {cy : Nat → ClassId} {nL : Nat} {W0 : Cond} {A0 : Nat → Prop} {H0 : Heap} {v : Value} (S : CallFix p m c cc nL s args (W0 :: vWall) RX9) (hK : va_K D vwCl (tyL cy) s) (hN : NL s) (hv : narrow (tyX1 7) v = v ∧ fits (tyX1 7) v = true) : vi_Fp p l e R s m args below meth c Q cc D A0 H0 74 6 7 v := by
  obtain ⟨hx, hb, -, hown, hts⟩ := S
  exact vi_FpN (ty0 := tyX1) (T := TX1) (N := 20) (Ts := W0 :: vWall) hx hb hts hown hK (fun w h => List.mem_cons_of_mem _ (vmu_1 w h)) rfl (by decide) tyX1_ok nmX1 rfl hN nf_38 rfl hv
theorem vfp_X9_78_6_10 {p : Program} {l : Launch} {e : Env} {R : Room} {s : State} {m : MethodId} {args : Array Value} {below : List Frame} {meth : Method} {c : Code} {Q : State → Prop} {cc : ByteArray} {D : va_G} {cy : Nat → ClassId} {nL : Nat} {W0 : Cond} {A0 : Nat → Prop} {H0 : Heap} {v : Value} (S : CallFix p m c cc nL s args (W0 :: vWall) RX9) (hK : va_K D vwCl (tyL cy) s) (hN : NL s) (hv : narrow (tyX1 10) v = v ∧ fits (tyX1 10) v = true) : vi_Fp p l e R s m args below meth c Q cc D A0 H0 78 6 10 v := by
  obtain ⟨hx, hb, -, hown, hts⟩ := S
  exact vi_FpN (ty0 := tyX1) (T := TX1) (N := 20) (Ts := W0 :: vWall) hx hb hts hown hK (fun w h => List.mem_cons_of_mem _ (vmu_1 w h)) rfl (by decide) tyX1_ok nmX1 rfl hN nf_41 rfl hv
theorem vfp_X9_81_14_1 {p : Program} {l : Launch} {e : Env} {R : Room} {s : State} {m : MethodId} {args : Array Value} {below : List Frame} {meth : Method} {c : Code} {Q : State → Prop} {cc : ByteArray} {D : va_G} {cy : Nat → ClassId} {nL : Nat} {W0 : Cond} {A0 : Nat → Prop} {H0 : Heap} {v : Value} (S : CallFix p m c cc nL s args (W0 :: vWall) RX9) (hK : va_K D vwCl (tyL cy) s) (hN : NL s) (hv : narrow (tyX9 1) v = v ∧ fits (tyX9 1) v = true) : vi_Fp p l e R s m args below meth c Q cc D A0 H0 81 14 1 v := by
  obtain ⟨hx, hb, -, hown, hts⟩ := S
  exact vi_FpP (ty0 := tyX9) (T := TX9) (N := 13) (Ts := W0 :: vWall) hx hb hts hown hK (fun w h => List.mem_cons_of_mem _ (vmu_9 w h)) rfl (by decide) tyX9_ok nmX9 rfl (List.mem_cons_of_mem _ (vm_4 _ (List.mem_of_getElem? (i := 4) rfl))) rfl hv
theorem vfp_X9_106_6_1 {p : Program} {l : Launch} {e : Env} {R : Room} {s : State} {m : MethodId} {args : Array Value} {below : List Frame} {meth : Method} {c : Code} {Q : State → Prop} {cc : ByteArray} {D : va_G} {cy : Nat → ClassId} {nL : Nat} {W0 : Cond} {A0 : Nat → Prop} {H0 : Heap} {v : Value} (S : CallFix p m c cc nL s args (W0 :: vWall) RX9) (hK : va_K D vwCl (tyL cy) s) (hN : NL s) (hv : narrow (tyX1 1) v = v ∧ fits (tyX1 1) v = true) : vi_Fp p l e R s m args below meth c Q cc D A0 H0 106 6 1 v := by
  obtain ⟨hx, hb, -, hown, hts⟩ := S
  exact vi_FpN (ty0 := tyX1) (T := TX1) (N := 20) (Ts := W0 :: vWall) hx hb hts hown hK (fun w h => List.mem_cons_of_mem _ (vmu_1 w h)) rfl (by decide) tyX1_ok nmX1 rfl hN nf_32 rfl hv
theorem vfp_X9_109_6_11 {p : Program} {l : Launch} {e : Env} {R : Room} {s : State} {m : MethodId} {args : Array Value} {below : List Frame} {meth : Method} {c : Code} {Q : State → Prop} {cc : ByteArray} {D : va_G} {cy : Nat → ClassId} {nL : Nat} {W0 : Cond} {A0 : Nat → Prop} {H0 : Heap} {v : Value} (S : CallFix p m c cc nL s args (W0 :: vWall) RX9) (hK : va_K D vwCl (tyL cy) s) (hN : NL s) (hv : narrow (tyX1 11) v = v ∧ fits (tyX1 11) v = true) : vi_Fp p l e R s m args below meth c Q cc D A0 H0 109 6 11 v := by
  obtain ⟨hx, hb, -, hown, hts⟩ := S
  exact vi_FpN (ty0 := tyX1) (T := TX1) (N := 20) (Ts := W0 :: vWall) hx hb hts hown hK (fun w h => List.mem_cons_of_mem _ (vmu_1 w h)) rfl (by decide) tyX1_ok nmX1 rfl hN nf_42 rfl hv
theorem vfp_X9_112_6_3 {p : Program} {l : Launch} {e : Env} {R : Room} {s : State} {m : MethodId} {args : Array Value} {below : List Frame} {meth : Method} {c : Code} {Q : State → Prop} {cc : ByteArray} {D : va_G} {cy : Nat → ClassId} {nL : Nat} {W0 : Cond} {A0 : Nat → Prop} {H0 : Heap} {v : Value} (S : CallFix p m c cc nL s args (W0 :: vWall) RX9) (hK : va_K D vwCl (tyL cy) s) (hN : NL s) (hv : narrow (tyX1 3) v = v ∧ fits (tyX1 3) v = true) : vi_Fp p l e R s m args below meth c Q cc D A0 H0 112 6 3 v := by
  obtain ⟨hx, hb, -, hown, hts⟩ := S
  exact vi_FpN (ty0 := tyX1) (T := TX1) (N := 20) (Ts := W0 :: vWall) hx hb hts hown hK (fun w h => List.mem_cons_of_mem _ (vmu_1 w h)) rfl (by decide) tyX1_ok nmX1 rfl hN nf_34 rfl hv
theorem vfp_X9_115_6_6 {p : Program} {l : Launch} {e : Env} {R : Room} {s : State} {m : MethodId} {args : Array Value} {below : List Frame} {meth : Method} {c : Code} {Q : State → Prop} {cc : ByteArray} {D : va_G} {cy : Nat → ClassId} {nL : Nat} {W0 : Cond} {A0 : Nat → Prop} {H0 : Heap} {v : Value} (S : CallFix p m c cc nL s args (W0 :: vWall) RX9) (hK : va_K D vwCl (tyL cy) s) (hN : NL s) (hv : narrow (tyX1 6) v = v ∧ fits (tyX1 6) v = true) : vi_Fp p l e R s m args below meth c Q cc D A0 H0 115 6 6 v := by
  obtain ⟨hx, hb, -, hown, hts⟩ := S
  exact vi_FpN (ty0 := tyX1) (T := TX1) (N := 20) (Ts := W0 :: vWall) hx hb hts hown hK (fun w h => List.mem_cons_of_mem _ (vmu_1 w h)) rfl (by decide) tyX1_ok nmX1 rfl hN nf_37 rfl hv
theorem vfp_X9_118_6_5 {p : Program} {l : Launch} {e : Env} {R : Room} {s : State} {m : MethodId} {args : Array Value} {below : List Frame} {meth : Method} {c : Code} {Q : State → Prop} {cc : ByteArray} {D : va_G} {cy : Nat → ClassId} {nL : Nat} {W0 : Cond} {A0 : Nat → Prop} {H0 : Heap} {v : Value} (S : CallFix p m c cc nL s args (W0 :: vWall) RX9) (hK : va_K D vwCl (tyL cy) s) (hN : NL s) (hv : narrow (tyX1 5) v = v ∧ fits (tyX1 5) v = true) : vi_Fp p l e R s m args below meth c Q cc D A0 H0 118 6 5 v := by
  obtain ⟨hx, hb, -, hown, hts⟩ := S
  exact vi_FpN (ty0 := tyX1) (T := TX1) (N := 20) (Ts := W0 :: vWall) hx hb hts hown hK (fun w h => List.mem_cons_of_mem _ (vmu_1 w h)) rfl (by decide) tyX1_ok nmX1 rfl hN nf_36 rfl hv
theorem vfp_X9_134_7_0 {p : Program} {l : Launch} {e : Env} {R : Room} {s : State} {m : MethodId} {args : Array Value} {below : List Frame} {meth : Method} {c : Code} {Q : State → Prop} {cc : ByteArray} {D : va_G} {cy : Nat → ClassId} {nL : Nat} {W0 : Cond} {A0 : Nat → Prop} {H0 : Heap} {v : Value} (S : CallFix p m c cc nL s args (W0 :: vWall) RX9) (hK : va_K D vwCl (tyL cy) s) (hN : NL s) (hv : narrow (tyX2 0) v = v ∧ fits (tyX2 0) v = true) : vi_Fp p l e R s m args below meth c Q cc D A0 H0 134 7 0 v := by
  obtain ⟨hx, hb, -, hown, hts⟩ := S
  exact vi_FpN (ty0 := tyX2) (T := TX2) (N := 9) (Ts := W0 :: vWall) hx hb hts hown hK (fun w h => List.mem_cons_of_mem _ (vmu_2 w h)) rfl (by decide) tyX2_ok nmX2 rfl hN nf_19 rfl hv
theorem vfp_X9_144_7_1 {p : Program} {l : Launch} {e : Env} {R : Room} {s : State} {m : MethodId} {args : Array Value} {below : List Frame} {meth : Method} {c : Code} {Q : State → Prop} {cc : ByteArray} {D : va_G} {cy : Nat → ClassId} {nL : Nat} {W0 : Cond} {A0 : Nat → Prop} {H0 : Heap} {v : Value} (S : CallFix p m c cc nL s args (W0 :: vWall) RX9) (hK : va_K D vwCl (tyL cy) s) (hN : NL s) (hv : narrow (tyX2 1) v = v ∧ fits (tyX2 1) v = true) : vi_Fp p l e R s m args below meth c Q cc D A0 H0 144 7 1 v := by
  obtain ⟨hx, hb, -, hown, hts⟩ := S
  exact vi_FpN (ty0 := tyX2) (T := TX2) (N := 9) (Ts := W0 :: vWall) hx hb hts hown hK (fun w h => List.mem_cons_of_mem _ (vmu_2 w h)) rfl (by decide) tyX2_ok nmX2 rfl hN nf_20 rfl hv
theorem vfp_X9_147_7_3 {p : Program} {l : Launch} {e : Env} {R : Room} {s : State} {m : MethodId} {args : Array Value} {below : List Frame} {meth : Method} {c : Code} {Q : State → Prop} {cc : ByteArray} {D : va_G} {cy : Nat → ClassId} {nL : Nat} {W0 : Cond} {A0 : Nat → Prop} {H0 : Heap} {v : Value} (S : CallFix p m c cc nL s args (W0 :: vWall) RX9) (hK : va_K D vwCl (tyL cy) s) (hN : NL s) (hv : narrow (tyX2 3) v = v ∧ fits (tyX2 3) v = true) : vi_Fp p l e R s m args below meth c Q cc D A0 H0 147 7 3 v := by
  obtain ⟨hx, hb, -, hown, hts⟩ := S
  exact vi_FpN (ty0 := tyX2) (T := TX2) (N := 9) (Ts := W0 :: vWall) hx hb hts hown hK (fun w h => List.mem_cons_of_mem _ (vmu_2 w h)) rfl (by decide) tyX2_ok nmX2 rfl hN nf_23 rfl hv
theorem vfp_X9_171_6_8 {p : Program} {l : Launch} {e : Env} {R : Room} {s : State} {m : MethodId} {args : Array Value} {below : List Frame} {meth : Method} {c : Code} {Q : State → Prop} {cc : ByteArray} {D : va_G} {cy : Nat → ClassId} {nL : Nat} {W0 : Cond} {A0 : Nat → Prop} {H0 : Heap} {v : Value} (S : CallFix p m c cc nL s args (W0 :: vWall) RX9) (hK : va_K D vwCl (tyL cy) s) (hN : NL s) (hv : narrow (tyX1 8) v = v ∧ fits (tyX1 8) v = true) : vi_Fp p l e R s m args below meth c Q cc D A0 H0 171 6 8 v := by
  obtain ⟨hx, hb, -, hown, hts⟩ := S
  exact vi_FpN (ty0 := tyX1) (T := TX1) (N := 20) (Ts := W0 :: vWall) hx hb hts hown hK (fun w h => List.mem_cons_of_mem _ (vmu_1 w h)) rfl (by decide) tyX1_ok nmX1 rfl hN nf_39 rfl hv
theorem vfp_X9_175_6_9 {p : Program} {l : Launch} {e : Env} {R : Room} {s : State} {m : MethodId} {args : Array Value} {below : List Frame} {meth : Method} {c : Code} {Q : State → Prop} {cc : ByteArray} {D : va_G} {cy : Nat → ClassId} {nL : Nat} {W0 : Cond} {A0 : Nat → Prop} {H0 : Heap} {v : Value} (S : CallFix p m c cc nL s args (W0 :: vWall) RX9) (hK : va_K D vwCl (tyL cy) s) (hN : NL s) (hv : narrow (tyX1 9) v = v ∧ fits (tyX1 9) v = true) : vi_Fp p l e R s m args below meth c Q cc D A0 H0 175 6 9 v := by
  obtain ⟨hx, hb, -, hown, hts⟩ := S
  exact vi_FpN (ty0 := tyX1) (T := TX1) (N := 20) (Ts := W0 :: vWall) hx hb hts hown hK (fun w h => List.mem_cons_of_mem _ (vmu_1 w h)) rfl (by decide) tyX1_ok nmX1 rfl hN nf_40 rfl hv
theorem vfp_X9_182_6_12 {p : Program} {l : Launch} {e : Env} {R : Room} {s : State} {m : MethodId} {args : Array Value} {below : List Frame} {meth : Method} {c : Code} {Q : State → Prop} {cc : ByteArray} {D : va_G} {cy : Nat → ClassId} {nL : Nat} {W0 : Cond} {A0 : Nat → Prop} {H0 : Heap} {v : Value} (S : CallFix p m c cc nL s args (W0 :: vWall) RX9) (hK : va_K D vwCl (tyL cy) s) (hN : NL s) (hv : narrow (tyX1 12) v = v ∧ fits (tyX1 12) v = true) : vi_Fp p l e R s m args below meth c Q cc D A0 H0 182 6 12 v := by
  obtain ⟨hx, hb, -, hown, hts⟩ := S
  exact vi_FpN (ty0 := tyX1) (T := TX1) (N := 20) (Ts := W0 :: vWall) hx hb hts hown hK (fun w h => List.mem_cons_of_mem _ (vmu_1 w h)) rfl (by decide) tyX1_ok nmX1 rfl hN nf_43 rfl hv
theorem vfp_X9_196_6_13 {p : Program} {l : Launch} {e : Env} {R : Room} {s : State} {m : MethodId} {args : Array Value} {below : List Frame} {meth : Method} {c : Code} {Q : State → Prop} {cc : ByteArray} {D : va_G} {cy : Nat → ClassId} {nL : Nat} {W0 : Cond} {A0 : Nat → Prop} {H0 : Heap} {v : Value} (S : CallFix p m c cc nL s args (W0 :: vWall) RX9) (hK : va_K D vwCl (tyL cy) s) (hN : NL s) (hv : narrow (tyX1 13) v = v ∧ fits (tyX1 13) v = true) : vi_Fp p l e R s m args below meth c Q cc D A0 H0 196 6 13 v := by
  obtain ⟨hx, hb, -, hown, hts⟩ := S
  exact vi_FpN (ty0 := tyX1) (T := TX1) (N := 20) (Ts := W0 :: vWall) hx hb hts hown hK (fun w h => List.mem_cons_of_mem _ (vmu_1 w h)) rfl (by decide) tyX1_ok nmX1 rfl hN nf_44 rfl hv
theorem vfp_X9_226_6_14 {p : Program} {l : Launch} {e : Env} {R : Room} {s : State} {m : MethodId} {args : Array Value} {below : List Frame} {meth : Method} {c : Code} {Q : State → Prop} {cc : ByteArray} {D : va_G} {cy : Nat → ClassId} {nL : Nat} {W0 : Cond} {A0 : Nat → Prop} {H0 : Heap} {v : Value} (S : CallFix p m c cc nL s args (W0 :: vWall) RX9) (hK : va_K D vwCl (tyL cy) s) (hN : NL s) (hv : narrow (tyX1 14) v = v ∧ fits (tyX1 14) v = true) : vi_Fp p l e R s m args below meth c Q cc D A0 H0 226 6 14 v := by
  obtain ⟨hx, hb, -, hown, hts⟩ := S
  exact vi_FpN (ty0 := tyX1) (T := TX1) (N := 20) (Ts := W0 :: vWall) hx hb hts hown hK (fun w h => List.mem_cons_of_mem _ (vmu_1 w h)) rfl (by decide) tyX1_ok nmX1 rfl hN nf_45 rfl hv
theorem vfp_X9_231_14_4 {p : Program} {l : Launch} {e : Env} {R : Room} {s : State} {m : MethodId} {args : Array Value} {below : List Frame} {meth : Method} {c : Code} {Q : State → Prop} {cc : ByteArray} {D : va_G} {cy : Nat → ClassId} {nL : Nat} {W0 : Cond} {A0 : Nat → Prop} {H0 : Heap} {v : Value} (S : CallFix p m c cc nL s args (W0 :: vWall) RX9) (hK : va_K D vwCl (tyL cy) s) (hN : NL s) (hv : narrow (tyX9 4) v = v ∧ fits (tyX9 4) v = true) : vi_Fp p l e R s m args below meth c Q cc D A0 H0 231 14 4 v := by
  obtain ⟨hx, hb, -, hown, hts⟩ := S
  exact vi_FpP (ty0 := tyX9) (T := TX9) (N := 13) (Ts := W0 :: vWall) hx hb hts hown hK (fun w h => List.mem_cons_of_mem _ (vmu_9 w h)) rfl (by decide) tyX9_ok nmX9 rfl (List.mem_cons_of_mem _ (vm_6 _ (List.mem_of_getElem? (i := 25) rfl))) rfl hv
theorem vfp_X9_252_14_7 {p : Program} {l : Launch} {e : Env} {R : Room} {s : State} {m : MethodId} {args : Array Value} {below : List Frame} {meth : Method} {c : Code} {Q : State → Prop} {cc : ByteArray} {D : va_G} {cy : Nat → ClassId} {nL : Nat} {W0 : Cond} {A0 : Nat → Prop} {H0 : Heap} {v : Value} (S : CallFix p m c cc nL s args (W0 :: vWall) RX9) (hK : va_K D vwCl (tyL cy) s) (hN : NL s) (hv : narrow (tyX9 7) v = v ∧ fits (tyX9 7) v = true) : vi_Fp p l e R s m args below meth c Q cc D A0 H0 252 14 7 v := by
  obtain ⟨hx, hb, -, hown, hts⟩ := S
  exact vi_FpP (ty0 := tyX9) (T := TX9) (N := 13) (Ts := W0 :: vWall) hx hb hts hown hK (fun w h => List.mem_cons_of_mem _ (vmu_9 w h)) rfl (by decide) tyX9_ok nmX9 rfl (List.mem_cons_of_mem _ (vm_7 _ (List.mem_of_getElem? (i := 22) rfl))) rfl hv
theorem vfp_X9_255_6_16 {p : Program} {l : Launch} {e : Env} {R : Room} {s : State} {m : MethodId} {args : Array Value} {below : List Frame} {meth : Method} {c : Code} {Q : State → Prop} {cc : ByteArray} {D : va_G} {cy : Nat → ClassId} {nL : Nat} {W0 : Cond} {A0 : Nat → Prop} {H0 : Heap} {v : Value} (S : CallFix p m c cc nL s args (W0 :: vWall) RX9) (hK : va_K D vwCl (tyL cy) s) (hN : NL s) (hv : narrow (tyX1 16) v = v ∧ fits (tyX1 16) v = true) : vi_Fp p l e R s m args below meth c Q cc D A0 H0 255 6 16 v := by
  obtain ⟨hx, hb, -, hown, hts⟩ := S
  exact vi_FpN (ty0 := tyX1) (T := TX1) (N := 20) (Ts := W0 :: vWall) hx hb hts hown hK (fun w h => List.mem_cons_of_mem _ (vmu_1 w h)) rfl (by decide) tyX1_ok nmX1 rfl hN nf_47 rfl hv
theorem vfp_X9_323_10_4 {p : Program} {l : Launch} {e : Env} {R : Room} {s : State} {m : MethodId} {args : Array Value} {below : List Frame} {meth : Method} {c : Code} {Q : State → Prop} {cc : ByteArray} {D : va_G} {cy : Nat → ClassId} {nL : Nat} {W0 : Cond} {A0 : Nat → Prop} {H0 : Heap} {v : Value} (S : CallFix p m c cc nL s args (W0 :: vWall) RX9) (hK : va_K D vwCl (tyL cy) s) (hN : NL s) (hv : narrow (tyX5 4) v = v ∧ fits (tyX5 4) v = true) : vi_Fp p l e R s m args below meth c Q cc D A0 H0 323 10 4 v := by
  obtain ⟨hx, hb, -, hown, hts⟩ := S
  exact vi_FpN (ty0 := tyX5) (T := TX5) (N := 14) (Ts := W0 :: vWall) hx hb hts hown hK (fun w h => List.mem_cons_of_mem _ (vmu_5 w h)) rfl (by decide) tyX5_ok nmX5 rfl hN nf_68 rfl hv
theorem vfp_X9_326_10_5 {p : Program} {l : Launch} {e : Env} {R : Room} {s : State} {m : MethodId} {args : Array Value} {below : List Frame} {meth : Method} {c : Code} {Q : State → Prop} {cc : ByteArray} {D : va_G} {cy : Nat → ClassId} {nL : Nat} {W0 : Cond} {A0 : Nat → Prop} {H0 : Heap} {v : Value} (S : CallFix p m c cc nL s args (W0 :: vWall) RX9) (hK : va_K D vwCl (tyL cy) s) (hN : NL s) (hv : narrow (tyX5 5) v = v ∧ fits (tyX5 5) v = true) : vi_Fp p l e R s m args below meth c Q cc D A0 H0 326 10 5 v := by
  obtain ⟨hx, hb, -, hown, hts⟩ := S
  exact vi_FpN (ty0 := tyX5) (T := TX5) (N := 14) (Ts := W0 :: vWall) hx hb hts hown hK (fun w h => List.mem_cons_of_mem _ (vmu_5 w h)) rfl (by decide) tyX5_ok nmX5 rfl hN nf_69 rfl hv
theorem vfp_X9_377_12_3 {p : Program} {l : Launch} {e : Env} {R : Room} {s : State} {m : MethodId} {args : Array Value} {below : List Frame} {meth : Method} {c : Code} {Q : State → Prop} {cc : ByteArray} {D : va_G} {cy : Nat → ClassId} {nL : Nat} {W0 : Cond} {A0 : Nat → Prop} {H0 : Heap} {v : Value} (S : CallFix p m c cc nL s args (W0 :: vWall) RX9) (hK : va_K D vwCl (tyL cy) s) (hN : NL s) (hv : narrow (tyX7 3) v = v ∧ fits (tyX7 3) v = true) : vi_Fp p l e R s m args below meth c Q cc D A0 H0 377 12 3 v := by
  obtain ⟨hx, hb, -, hown, hts⟩ := S
  exact vi_FpN (ty0 := tyX7) (T := TX7) (N := 6) (Ts := W0 :: vWall) hx hb hts hown hK (fun w h => List.mem_cons_of_mem _ (vmu_7 w h)) rfl (by decide) tyX7_ok nmX7 rfl hN nf_59 rfl hv
theorem vfp_X9_380_10_8 {p : Program} {l : Launch} {e : Env} {R : Room} {s : State} {m : MethodId} {args : Array Value} {below : List Frame} {meth : Method} {c : Code} {Q : State → Prop} {cc : ByteArray} {D : va_G} {cy : Nat → ClassId} {nL : Nat} {W0 : Cond} {A0 : Nat → Prop} {H0 : Heap} {v : Value} (S : CallFix p m c cc nL s args (W0 :: vWall) RX9) (hK : va_K D vwCl (tyL cy) s) (hN : NL s) (hv : narrow (tyX5 8) v = v ∧ fits (tyX5 8) v = true) : vi_Fp p l e R s m args below meth c Q cc D A0 H0 380 10 8 v := by
  obtain ⟨hx, hb, -, hown, hts⟩ := S
  exact vi_FpN (ty0 := tyX5) (T := TX5) (N := 14) (Ts := W0 :: vWall) hx hb hts hown hK (fun w h => List.mem_cons_of_mem _ (vmu_5 w h)) rfl (by decide) tyX5_ok nmX5 rfl hN nf_72 rfl hv
theorem vfp_X9_388_12_2 {p : Program} {l : Launch} {e : Env} {R : Room} {s : State} {m : MethodId} {args : Array Value} {below : List Frame} {meth : Method} {c : Code} {Q : State → Prop} {cc : ByteArray} {D : va_G} {cy : Nat → ClassId} {nL : Nat} {W0 : Cond} {A0 : Nat → Prop} {H0 : Heap} {v : Value} (S : CallFix p m c cc nL s args (W0 :: vWall) RX9) (hK : va_K D vwCl (tyL cy) s) (hN : NL s) (hv : narrow (tyX7 2) v = v ∧ fits (tyX7 2) v = true) : vi_Fp p l e R s m args below meth c Q cc D A0 H0 388 12 2 v := by
  obtain ⟨hx, hb, -, hown, hts⟩ := S
  exact vi_FpN (ty0 := tyX7) (T := TX7) (N := 6) (Ts := W0 :: vWall) hx hb hts hown hK (fun w h => List.mem_cons_of_mem _ (vmu_7 w h)) rfl (by decide) tyX7_ok nmX7 rfl hN nf_57 rfl hv
theorem vfp_X9_411_9_1 {p : Program} {l : Launch} {e : Env} {R : Room} {s : State} {m : MethodId} {args : Array Value} {below : List Frame} {meth : Method} {c : Code} {Q : State → Prop} {cc : ByteArray} {D : va_G} {cy : Nat → ClassId} {nL : Nat} {W0 : Cond} {A0 : Nat → Prop} {H0 : Heap} {v : Value} (S : CallFix p m c cc nL s args (W0 :: vWall) RX9) (hK : va_K D vwCl (tyL cy) s) (hN : NL s) (hv : narrow (tyX4 1) v = v ∧ fits (tyX4 1) v = true) : vi_Fp p l e R s m args below meth c Q cc D A0 H0 411 9 1 v := by
  obtain ⟨hx, hb, -, hown, hts⟩ := S
  exact vi_FpN (ty0 := tyX4) (T := TX4) (N := 2) (Ts := W0 :: vWall) hx hb hts hown hK (fun w h => List.mem_cons_of_mem _ (vmu_4 w h)) rfl (by decide) tyX4_ok nmX4 rfl hN nf_17 rfl hv
theorem vfp_X9_416_9_0 {p : Program} {l : Launch} {e : Env} {R : Room} {s : State} {m : MethodId} {args : Array Value} {below : List Frame} {meth : Method} {c : Code} {Q : State → Prop} {cc : ByteArray} {D : va_G} {cy : Nat → ClassId} {nL : Nat} {W0 : Cond} {A0 : Nat → Prop} {H0 : Heap} {v : Value} (S : CallFix p m c cc nL s args (W0 :: vWall) RX9) (hK : va_K D vwCl (tyL cy) s) (hN : NL s) (hv : narrow (tyX4 0) v = v ∧ fits (tyX4 0) v = true) : vi_Fp p l e R s m args below meth c Q cc D A0 H0 416 9 0 v := by
  obtain ⟨hx, hb, -, hown, hts⟩ := S
  exact vi_FpN (ty0 := tyX4) (T := TX4) (N := 2) (Ts := W0 :: vWall) hx hb hts hown hK (fun w h => List.mem_cons_of_mem _ (vmu_4 w h)) rfl (by decide) tyX4_ok nmX4 rfl hN nf_16 rfl hv
theorem vfp_X9_418_11_0 {p : Program} {l : Launch} {e : Env} {R : Room} {s : State} {m : MethodId} {args : Array Value} {below : List Frame} {meth : Method} {c : Code} {Q : State → Prop} {cc : ByteArray} {D : va_G} {cy : Nat → ClassId} {nL : Nat} {W0 : Cond} {A0 : Nat → Prop} {H0 : Heap} {v : Value} (S : CallFix p m c cc nL s args (W0 :: vWall) RX9) (hK : va_K D vwCl (tyL cy) s) (hN : NL s) (hv : narrow (tyX6 0) v = v ∧ fits (tyX6 0) v = true) : vi_Fp p l e R s m args below meth c Q cc D A0 H0 418 11 0 v := by
  obtain ⟨hx, hb, -, hown, hts⟩ := S
  exact vi_FpN (ty0 := tyX6) (T := TX6) (N := 3) (Ts := W0 :: vWall) hx hb hts hown hK (fun w h => List.mem_cons_of_mem _ (vmu_6 w h)) rfl (by decide) tyX6_ok nmX6 rfl hN nf_13 rfl hv
theorem vfp_X9_427_10_10 {p : Program} {l : Launch} {e : Env} {R : Room} {s : State} {m : MethodId} {args : Array Value} {below : List Frame} {meth : Method} {c : Code} {Q : State → Prop} {cc : ByteArray} {D : va_G} {cy : Nat → ClassId} {nL : Nat} {W0 : Cond} {A0 : Nat → Prop} {H0 : Heap} {v : Value} (S : CallFix p m c cc nL s args (W0 :: vWall) RX9) (hK : va_K D vwCl (tyL cy) s) (hN : NL s) (hv : narrow (tyX5 10) v = v ∧ fits (tyX5 10) v = true) : vi_Fp p l e R s m args below meth c Q cc D A0 H0 427 10 10 v := by
  obtain ⟨hx, hb, -, hown, hts⟩ := S
  exact vi_FpN (ty0 := tyX5) (T := TX5) (N := 14) (Ts := W0 :: vWall) hx hb hts hown hK (fun w h => List.mem_cons_of_mem _ (vmu_5 w h)) rfl (by decide) tyX5_ok nmX5 rfl hN nf_74 rfl hv
theorem vfp_X9_481_11_1 {p : Program} {l : Launch} {e : Env} {R : Room} {s : State} {m : MethodId} {args : Array Value} {below : List Frame} {meth : Method} {c : Code} {Q : State → Prop} {cc : ByteArray} {D : va_G} {cy : Nat → ClassId} {nL : Nat} {W0 : Cond} {A0 : Nat → Prop} {H0 : Heap} {v : Value} (S : CallFix p m c cc nL s args (W0 :: vWall) RX9) (hK : va_K D vwCl (tyL cy) s) (hN : NL s) (hv : narrow (tyX6 1) v = v ∧ fits (tyX6 1) v = true) : vi_Fp p l e R s m args below meth c Q cc D A0 H0 481 11 1 v := by
  obtain ⟨hx, hb, -, hown, hts⟩ := S
  exact vi_FpN (ty0 := tyX6) (T := TX6) (N := 3) (Ts := W0 :: vWall) hx hb hts hown hK (fun w h => List.mem_cons_of_mem _ (vmu_6 w h)) rfl (by decide) tyX6_ok nmX6 rfl hN nf_14 rfl hv
theorem vfp_X9_484_11_2 {p : Program} {l : Launch} {e : Env} {R : Room} {s : State} {m : MethodId} {args : Array Value} {below : List Frame} {meth : Method} {c : Code} {Q : State → Prop} {cc : ByteArray} {D : va_G} {cy : Nat → ClassId} {nL : Nat} {W0 : Cond} {A0 : Nat → Prop} {H0 : Heap} {v : Value} (S : CallFix p m c cc nL s args (W0 :: vWall) RX9) (hK : va_K D vwCl (tyL cy) s) (hN : NL s) (hv : narrow (tyX6 2) v = v ∧ fits (tyX6 2) v = true) : vi_Fp p l e R s m args below meth c Q cc D A0 H0 484 11 2 v := by
  obtain ⟨hx, hb, -, hown, hts⟩ := S
  exact vi_FpN (ty0 := tyX6) (T := TX6) (N := 3) (Ts := W0 :: vWall) hx hb hts hown hK (fun w h => List.mem_cons_of_mem _ (vmu_6 w h)) rfl (by decide) tyX6_ok nmX6 rfl hN nf_15 rfl hv
theorem vfp_X9_489_6_15 {p : Program} {l : Launch} {e : Env} {R : Room} {s : State} {m : MethodId} {args : Array Value} {below : List Frame} {meth : Method} {c : Code} {Q : State → Prop} {cc : ByteArray} {D : va_G} {cy : Nat → ClassId} {nL : Nat} {W0 : Cond} {A0 : Nat → Prop} {H0 : Heap} {v : Value} (S : CallFix p m c cc nL s args (W0 :: vWall) RX9) (hK : va_K D vwCl (tyL cy) s) (hN : NL s) (hv : narrow (tyX1 15) v = v ∧ fits (tyX1 15) v = true) : vi_Fp p l e R s m args below meth c Q cc D A0 H0 489 6 15 v := by
  obtain ⟨hx, hb, -, hown, hts⟩ := S
  exact vi_FpN (ty0 := tyX1) (T := TX1) (N := 20) (Ts := W0 :: vWall) hx hb hts hown hK (fun w h => List.mem_cons_of_mem _ (vmu_1 w h)) rfl (by decide) tyX1_ok nmX1 rfl hN nf_46 rfl hv
theorem vfp_X9_492_10_9 {p : Program} {l : Launch} {e : Env} {R : Room} {s : State} {m : MethodId} {args : Array Value} {below : List Frame} {meth : Method} {c : Code} {Q : State → Prop} {cc : ByteArray} {D : va_G} {cy : Nat → ClassId} {nL : Nat} {W0 : Cond} {A0 : Nat → Prop} {H0 : Heap} {v : Value} (S : CallFix p m c cc nL s args (W0 :: vWall) RX9) (hK : va_K D vwCl (tyL cy) s) (hN : NL s) (hv : narrow (tyX5 9) v = v ∧ fits (tyX5 9) v = true) : vi_Fp p l e R s m args below meth c Q cc D A0 H0 492 10 9 v := by
  obtain ⟨hx, hb, -, hown, hts⟩ := S
  exact vi_FpN (ty0 := tyX5) (T := TX5) (N := 14) (Ts := W0 :: vWall) hx hb hts hown hK (fun w h => List.mem_cons_of_mem _ (vmu_5 w h)) rfl (by decide) tyX5_ok nmX5 rfl hN nf_73 rfl hv
theorem vfp_X9_543_6_17 {p : Program} {l : Launch} {e : Env} {R : Room} {s : State} {m : MethodId} {args : Array Value} {below : List Frame} {meth : Method} {c : Code} {Q : State → Prop} {cc : ByteArray} {D : va_G} {cy : Nat → ClassId} {nL : Nat} {W0 : Cond} {A0 : Nat → Prop} {H0 : Heap} {v : Value} (S : CallFix p m c cc nL s args (W0 :: vWall) RX9) (hK : va_K D vwCl (tyL cy) s) (hN : NL s) (hv : narrow (tyX1 17) v = v ∧ fits (tyX1 17) v = true) : vi_Fp p l e R s m args below meth c Q cc D A0 H0 543 6 17 v := by
  obtain ⟨hx, hb, -, hown, hts⟩ := S
  exact vi_FpN (ty0 := tyX1) (T := TX1) (N := 20) (Ts := W0 :: vWall) hx hb hts hown hK (fun w h => List.mem_cons_of_mem _ (vmu_1 w h)) rfl (by decide) tyX1_ok nmX1 rfl hN nf_48 rfl hv
theorem vfp_X9_594_7_5 {p : Program} {l : Launch} {e : Env} {R : Room} {s : State} {m : MethodId} {args : Array Value} {below : List Frame} {meth : Method} {c : Code} {Q : State → Prop} {cc : ByteArray} {D : va_G} {cy : Nat → ClassId} {nL : Nat} {W0 : Cond} {A0 : Nat → Prop} {H0 : Heap} {v : Value} (S : CallFix p m c cc nL s args (W0 :: vWall) RX9) (hK : va_K D vwCl (tyL cy) s) (hN : NL s) (hv : narrow (tyX2 5) v = v ∧ fits (tyX2 5) v = true) : vi_Fp p l e R s m args below meth c Q cc D A0 H0 594 7 5 v := by
  obtain ⟨hx, hb, -, hown, hts⟩ := S
  exact vi_FpN (ty0 := tyX2) (T := TX2) (N := 9) (Ts := W0 :: vWall) hx hb hts hown hK (fun w h => List.mem_cons_of_mem _ (vmu_2 w h)) rfl (by decide) tyX2_ok nmX2 rfl hN nf_27 rfl hv
theorem vfp_X9_616_10_7 {p : Program} {l : Launch} {e : Env} {R : Room} {s : State} {m : MethodId} {args : Array Value} {below : List Frame} {meth : Method} {c : Code} {Q : State → Prop} {cc : ByteArray} {D : va_G} {cy : Nat → ClassId} {nL : Nat} {W0 : Cond} {A0 : Nat → Prop} {H0 : Heap} {v : Value} (S : CallFix p m c cc nL s args (W0 :: vWall) RX9) (hK : va_K D vwCl (tyL cy) s) (hN : NL s) (hv : narrow (tyX5 7) v = v ∧ fits (tyX5 7) v = true) : vi_Fp p l e R s m args below meth c Q cc D A0 H0 616 10 7 v := by
  obtain ⟨hx, hb, -, hown, hts⟩ := S
  exact vi_FpN (ty0 := tyX5) (T := TX5) (N := 14) (Ts := W0 :: vWall) hx hb hts hown hK (fun w h => List.mem_cons_of_mem _ (vmu_5 w h)) rfl (by decide) tyX5_ok nmX5 rfl hN nf_71 rfl hv
theorem vfp_X9_623_12_4 {p : Program} {l : Launch} {e : Env} {R : Room} {s : State} {m : MethodId} {args : Array Value} {below : List Frame} {meth : Method} {c : Code} {Q : State → Prop} {cc : ByteArray} {D : va_G} {cy : Nat → ClassId} {nL : Nat} {W0 : Cond} {A0 : Nat → Prop} {H0 : Heap} {v : Value} (S : CallFix p m c cc nL s args (W0 :: vWall) RX9) (hK : va_K D vwCl (tyL cy) s) (hN : NL s) (hv : narrow (tyX7 4) v = v ∧ fits (tyX7 4) v = true) : vi_Fp p l e R s m args below meth c Q cc D A0 H0 623 12 4 v := by
  obtain ⟨hx, hb, -, hown, hts⟩ := S
  exact vi_FpN (ty0 := tyX7) (T := TX7) (N := 6) (Ts := W0 :: vWall) hx hb hts hown hK (fun w h => List.mem_cons_of_mem _ (vmu_7 w h)) rfl (by decide) tyX7_ok nmX7 rfl hN nf_61 rfl hv
theorem vfp_X9_626_12_5 {p : Program} {l : Launch} {e : Env} {R : Room} {s : State} {m : MethodId} {args : Array Value} {below : List Frame} {meth : Method} {c : Code} {Q : State → Prop} {cc : ByteArray} {D : va_G} {cy : Nat → ClassId} {nL : Nat} {W0 : Cond} {A0 : Nat → Prop} {H0 : Heap} {v : Value} (S : CallFix p m c cc nL s args (W0 :: vWall) RX9) (hK : va_K D vwCl (tyL cy) s) (hN : NL s) (hv : narrow (tyX7 5) v = v ∧ fits (tyX7 5) v = true) : vi_Fp p l e R s m args below meth c Q cc D A0 H0 626 12 5 v := by
  obtain ⟨hx, hb, -, hown, hts⟩ := S
  exact vi_FpN (ty0 := tyX7) (T := TX7) (N := 6) (Ts := W0 :: vWall) hx hb hts hown hK (fun w h => List.mem_cons_of_mem _ (vmu_7 w h)) rfl (by decide) tyX7_ok nmX7 rfl hN nf_63 rfl hv
theorem vfp_X9_629_7_6 {p : Program} {l : Launch} {e : Env} {R : Room} {s : State} {m : MethodId} {args : Array Value} {below : List Frame} {meth : Method} {c : Code} {Q : State → Prop} {cc : ByteArray} {D : va_G} {cy : Nat → ClassId} {nL : Nat} {W0 : Cond} {A0 : Nat → Prop} {H0 : Heap} {v : Value} (S : CallFix p m c cc nL s args (W0 :: vWall) RX9) (hK : va_K D vwCl (tyL cy) s) (hN : NL s) (hv : narrow (tyX2 6) v = v ∧ fits (tyX2 6) v = true) : vi_Fp p l e R s m args below meth c Q cc D A0 H0 629 7 6 v := by
  obtain ⟨hx, hb, -, hown, hts⟩ := S
  exact vi_FpN (ty0 := tyX2) (T := TX2) (N := 9) (Ts := W0 :: vWall) hx hb hts hown hK (fun w h => List.mem_cons_of_mem _ (vmu_2 w h)) rfl (by decide) tyX2_ok nmX2 rfl hN nf_28 rfl hv
theorem vfp_X9_640_7_4 {p : Program} {l : Launch} {e : Env} {R : Room} {s : State} {m : MethodId} {args : Array Value} {below : List Frame} {meth : Method} {c : Code} {Q : State → Prop} {cc : ByteArray} {D : va_G} {cy : Nat → ClassId} {nL : Nat} {W0 : Cond} {A0 : Nat → Prop} {H0 : Heap} {v : Value} (S : CallFix p m c cc nL s args (W0 :: vWall) RX9) (hK : va_K D vwCl (tyL cy) s) (hN : NL s) (hv : narrow (tyX2 4) v = v ∧ fits (tyX2 4) v = true) : vi_Fp p l e R s m args below meth c Q cc D A0 H0 640 7 4 v := by
  obtain ⟨hx, hb, -, hown, hts⟩ := S
  exact vi_FpN (ty0 := tyX2) (T := TX2) (N := 9) (Ts := W0 :: vWall) hx hb hts hown hK (fun w h => List.mem_cons_of_mem _ (vmu_2 w h)) rfl (by decide) tyX2_ok nmX2 rfl hN nf_25 rfl hv
theorem vfp_X9_643_10_6 {p : Program} {l : Launch} {e : Env} {R : Room} {s : State} {m : MethodId} {args : Array Value} {below : List Frame} {meth : Method} {c : Code} {Q : State → Prop} {cc : ByteArray} {D : va_G} {cy : Nat → ClassId} {nL : Nat} {W0 : Cond} {A0 : Nat → Prop} {H0 : Heap} {v : Value} (S : CallFix p m c cc nL s args (W0 :: vWall) RX9) (hK : va_K D vwCl (tyL cy) s) (hN : NL s) (hv : narrow (tyX5 6) v = v ∧ fits (tyX5 6) v = true) : vi_Fp p l e R s m args below meth c Q cc D A0 H0 643 10 6 v := by
  obtain ⟨hx, hb, -, hown, hts⟩ := S
  exact vi_FpN (ty0 := tyX5) (T := TX5) (N := 14) (Ts := W0 :: vWall) hx hb hts hown hK (fun w h => List.mem_cons_of_mem _ (vmu_5 w h)) rfl (by decide) tyX5_ok nmX5 rfl hN nf_70 rfl hv
theorem vct_X9 {p : Program} {s : State} {m : MethodId} {args : Array Value} {c : Code} {cc : ByteArray} {nL : Nat} {W0 : Cond} (S : CallFix p m c cc nL s args (W0 :: vWall) RX9) : ∀ (i : Nat) (v : Int), (i, v) ∈ vCT_X9 → (Jvm.Cond.constant RX9 i (Int32.ofInt v)).before args s = true := by
  obtain ⟨-, -, -, -, hts⟩ := S
  have key : ∀ q ∈ vCT_X9, (Jvm.Cond.constant RX9 q.1 (Int32.ofInt q.2)).before args s = true := by
    refine List.forall_mem_cons.mpr ⟨hts _ (List.mem_cons_of_mem _ (vm_7 _ (List.mem_of_getElem? (i := 30) rfl))), ?_⟩
    refine List.forall_mem_cons.mpr ⟨hts _ (List.mem_cons_of_mem _ (vm_7 _ (List.mem_of_getElem? (i := 31) rfl))), ?_⟩
    exact fun q hq => by cases hq
  exact fun i v h => key (i, v) h
theorem vc2_X9 {p : Program} {s : State} {m : MethodId} {args : Array Value} {c : Code} {cc : ByteArray} {nL : Nat} {W0 : Cond} (S : CallFix p m c cc nL s args (W0 :: vWall) RX9) : ∀ (i : Nat) (v : Int), (i, v) ∈ vC2_X9 → ∃ x : Int64, (Jvm.Cond.constantLong RX9 i x).before args s = true := by
  obtain ⟨-, -, -, -, hts⟩ := S
  have key : ∀ q ∈ vC2_X9, ∃ x : Int64, (Jvm.Cond.constantLong RX9 q.1 x).before args s = true := by
    refine List.forall_mem_cons.mpr ⟨⟨_, hts _ (List.mem_cons_of_mem _ (vm_11 _ (List.mem_of_getElem? (i := 3) rfl)))⟩, ?_⟩
    refine List.forall_mem_cons.mpr ⟨⟨_, hts _ (List.mem_cons_of_mem _ (vm_11 _ (List.mem_of_getElem? (i := 4) rfl)))⟩, ?_⟩
    exact fun q hq => by cases hq
  exact fun i v h => key (i, v) h
def vTy (ci k : Nat) : FieldType := match ci with
  | 5 => tyX0 k
  | 6 => tyX1 k
  | 7 => tyX2 k
  | 8 => tyX3 k
  | 9 => tyX4 k
  | 10 => tyX5 k
  | 11 => tyX6 k
  | 12 => tyX7 k
  | 13 => tyX8 k
  | 14 => tyX9 k
  | _ => .int
theorem vTyb : vK.all (fun k => !(k.1 == 0) || (List.range k.2.2.2.length).all (fun i => match k.2.2.2[i]? with | some b => vi_tyb (vTy k.2.1 i) b | none => true)) = true := by decide +kernel
theorem vTy_ok {ad τ : List Nat} {d ci x k : Nat} {fs : List VA} {b : VA} {v : Value} (h1 : vK[d]? = some (0, ci, x, fs)) (h2 : fs[k]? = some b) (hv : vi_ok ad τ b v) : narrow (vTy ci k) v = v ∧ fits (vTy ci k) v = true := by
  have h3 := List.all_eq_true.mp vTyb _ (List.mem_of_getElem? h1)
  have h4 : ((List.range fs.length).all (fun i => match fs[i]? with | some b => vi_tyb (vTy ci i) b | none => true)) = true := by simpa using h3
  have h5 := List.all_eq_true.mp h4 k (List.mem_range.mpr (List.getElem?_eq_some_iff.mp h2).1)
  rw [h2] at h5
  exact vi_tyb_ok h5 hv
theorem vi_f4 {α β γ δ : Type} {L : List (α × β × γ × δ)} {P : α → β → γ → δ → Prop} (h : ∀ q ∈ L, P q.1 q.2.1 q.2.2.1 q.2.2.2) : ∀ (a : α) (b : β) (c : γ) (d : δ), (a, b, c, d) ∈ L → P a b c d := fun a b c d hm => h (a, b, c, d) hm
end VWB
