/-! CALLS -/
def g_gmJ (M : g_M) (cj : Nat) : Prop := Cond.code M.1.1 M.1.2.1 M.1.2.2.1 M.1.2.2.2 ∈ g_Ts ∧ Cond.initialized M.1.1.cls ∈ g_Ts ∧ (M.1.1.cls ≠ "java/lang/invoke/MethodHandle" ∧ M.1.1.cls ≠ "java/lang/invoke/VarHandle") ∧ plainName M.1.1.cls = true ∧
  ((cj = 99 ∧ Cond.static M.1.1 ∈ g_Ts) ∨ (cj ≠ 99 ∧ Cond.instanceMethod M.1.1 ∈ g_Ts ∧ (∃ (T : u_T) (N : Nat), g_C[cj]? = some (M.1.1.cls, T, N)) ∧ ((M.2.1.2.2 = true ∧ M.1.1.name = "<init>" ∧ M.1.2.2.2 = none) ∨ (M.2.1.2.2 = false ∧ Cond.selects M.1.1.cls M.1.1 M.1.1 ∈ g_Ts))))
def g_gmE (c : Nat) (q : Nat × Nat × Nat × Nat × Bool) : Prop := (q.2.1 = 0 ∧ ((q.2.2.2.1 = 0 ∧ Cond.methodLink (g_cn c) q.1 Lib.objectInit ∈ g_Ts) ∨ (q.2.2.2.1 = 95 ∧ q.2.2.1 = 0 ∧ Cond.methodLink (g_cn c) q.1 tx_len ∈ g_Ts) ∨ (q.2.2.2.1 = 94 ∧ q.2.2.1 = 1 ∧ Cond.methodLink (g_cn c) q.1 tx_chr ∈ g_Ts) ∨ (q.2.2.2.1 = 98 ∧ Cond.methodLink (g_cn c) q.1 arraycopyName ∈ g_Ts ∧ Cond.native arraycopyName ∈ g_Ts ∧ Cond.static arraycopyName ∈ g_Ts ∧ Cond.initialized "java/lang/System" ∈ g_Ts) ∨
    (q.2.2.2.1 = 97 ∧ Cond.methodLink (g_cn c) q.1 Lib.Math.min.name ∈ g_Ts ∧ Cond.static Lib.Math.min.name ∈ g_Ts ∧ Cond.initialized "java/lang/Math" ∈ g_Ts ∧ Cond.code Lib.Math.min.name Lib.Math.min.code 2 (some .int) ∈ g_Ts) ∨
    (q.2.2.2.1 = 96 ∧ Cond.methodLink (g_cn c) q.1 Lib.Math.max.name ∈ g_Ts ∧ Cond.static Lib.Math.max.name ∈ g_Ts ∧ Cond.initialized "java/lang/Math" ∈ g_Ts ∧ Cond.code Lib.Math.max.name Lib.Math.max.code 2 (some .int) ∈ g_Ts))) ∨ (q.2.1 ≠ 0 ∧ g_gmJ (g_meth q.2.1) q.2.2.2.1 ∧ (parseMethodDescriptor (g_meth q.2.1).1.1.desc).map (fun d => d.parameters.length) = some q.2.2.1 ∧
  ((q.2.2.2.2 = false ∧ Cond.methodLink (g_cn c) q.1 (g_meth q.2.1).1.1 ∈ g_Ts) ∨ (q.2.2.2.2 = true ∧ ∃ host : String, Cond.methodLinkNest (g_cn c) q.1 (g_meth q.2.1).1.1 host ∈ g_Ns)))
set_option maxRecDepth 100000 in
theorem g_kc0 : Cond.initialized "KinGates$County" ∈ g_Ts ∧ ("KinGates$County" ≠ "java/lang/invoke/MethodHandle" ∧ "KinGates$County" ≠ "java/lang/invoke/VarHandle") ∧ plainName "KinGates$County" = true := ⟨g_in 73 (by decide +kernel) rfl, ⟨by decide +kernel, by decide +kernel⟩, by decide +kernel⟩
set_option maxRecDepth 100000 in
theorem g_kc1 : Cond.initialized "KinGates$Course" ∈ g_Ts ∧ ("KinGates$Course" ≠ "java/lang/invoke/MethodHandle" ∧ "KinGates$Course" ≠ "java/lang/invoke/VarHandle") ∧ plainName "KinGates$Course" = true := ⟨g_in 78 (by decide +kernel) rfl, ⟨by decide +kernel, by decide +kernel⟩, by decide +kernel⟩
set_option maxRecDepth 100000 in
theorem g_kc2 : Cond.initialized "KinGates$Kin" ∈ g_Ts ∧ ("KinGates$Kin" ≠ "java/lang/invoke/MethodHandle" ∧ "KinGates$Kin" ≠ "java/lang/invoke/VarHandle") ∧ plainName "KinGates$Kin" = true := ⟨g_in 77 (by decide +kernel) rfl, ⟨by decide +kernel, by decide +kernel⟩, by decide +kernel⟩
set_option maxRecDepth 100000 in
theorem g_kc3 : Cond.initialized "KinGates$Lines" ∈ g_Ts ∧ ("KinGates$Lines" ≠ "java/lang/invoke/MethodHandle" ∧ "KinGates$Lines" ≠ "java/lang/invoke/VarHandle") ∧ plainName "KinGates$Lines" = true := ⟨g_in 79 (by decide +kernel) rfl, ⟨by decide +kernel, by decide +kernel⟩, by decide +kernel⟩
set_option maxRecDepth 100000 in
theorem g_kc4 : Cond.initialized "KinGates$Pairs" ∈ g_Ts ∧ ("KinGates$Pairs" ≠ "java/lang/invoke/MethodHandle" ∧ "KinGates$Pairs" ≠ "java/lang/invoke/VarHandle") ∧ plainName "KinGates$Pairs" = true := ⟨g_in 74 (by decide +kernel) rfl, ⟨by decide +kernel, by decide +kernel⟩, by decide +kernel⟩
set_option maxRecDepth 100000 in
theorem g_kc5 : Cond.initialized "KinGates$Parser" ∈ g_Ts ∧ ("KinGates$Parser" ≠ "java/lang/invoke/MethodHandle" ∧ "KinGates$Parser" ≠ "java/lang/invoke/VarHandle") ∧ plainName "KinGates$Parser" = true := ⟨g_in 75 (by decide +kernel) rfl, ⟨by decide +kernel, by decide +kernel⟩, by decide +kernel⟩
set_option maxRecDepth 100000 in
theorem g_kc6 : Cond.initialized "KinGates$Sheets" ∈ g_Ts ∧ ("KinGates$Sheets" ≠ "java/lang/invoke/MethodHandle" ∧ "KinGates$Sheets" ≠ "java/lang/invoke/VarHandle") ∧ plainName "KinGates$Sheets" = true := ⟨g_in 81 (by decide +kernel) rfl, ⟨by decide +kernel, by decide +kernel⟩, by decide +kernel⟩
set_option maxRecDepth 100000 in
theorem g_kc7 : Cond.initialized "KinGates$Tape" ∈ g_Ts ∧ ("KinGates$Tape" ≠ "java/lang/invoke/MethodHandle" ∧ "KinGates$Tape" ≠ "java/lang/invoke/VarHandle") ∧ plainName "KinGates$Tape" = true := ⟨g_in 76 (by decide +kernel) rfl, ⟨by decide +kernel, by decide +kernel⟩, by decide +kernel⟩
set_option maxRecDepth 100000 in
theorem g_kc8 : Cond.initialized "KinGates$Witness" ∈ g_Ts ∧ ("KinGates$Witness" ≠ "java/lang/invoke/MethodHandle" ∧ "KinGates$Witness" ≠ "java/lang/invoke/VarHandle") ∧ plainName "KinGates$Witness" = true := ⟨g_in 80 (by decide +kernel) rfl, ⟨by decide +kernel, by decide +kernel⟩, by decide +kernel⟩
set_option maxRecDepth 100000 in
theorem g_kc9 : Cond.initialized "KinGates" ∈ g_Ts ∧ ("KinGates" ≠ "java/lang/invoke/MethodHandle" ∧ "KinGates" ≠ "java/lang/invoke/VarHandle") ∧ plainName "KinGates" = true := ⟨g_in 72 (by decide +kernel) rfl, ⟨by decide +kernel, by decide +kernel⟩, by decide +kernel⟩
set_option maxRecDepth 100000 in
theorem g_kc10 : Cond.initialized "KinGatesModel" ∈ g_Ts ∧ ("KinGatesModel" ≠ "java/lang/invoke/MethodHandle" ∧ "KinGatesModel" ≠ "java/lang/invoke/VarHandle") ∧ plainName "KinGatesModel" = true := ⟨g_in 82 (by decide +kernel) rfl, ⟨by decide +kernel, by decide +kernel⟩, by decide +kernel⟩
set_option maxRecDepth 100000 in
theorem g_kc12 : Cond.initialized "java/lang/Integer" ∈ g_Ts ∧ ("java/lang/Integer" ≠ "java/lang/invoke/MethodHandle" ∧ "java/lang/Integer" ≠ "java/lang/invoke/VarHandle") ∧ plainName "java/lang/Integer" = true := ⟨g_in 89 (by decide +kernel) rfl, ⟨by decide +kernel, by decide +kernel⟩, by decide +kernel⟩
set_option maxRecDepth 100000 in
theorem g_j1 : g_gmJ g_m1 0 := ⟨g_in 102 (by exact rfl) rfl, g_kc0.1, g_kc0.2.1, g_kc0.2.2, Or.inr ⟨by decide, g_in 101 (by decide +kernel) rfl, ⟨_, _, rfl⟩, Or.inl ⟨rfl, rfl, rfl⟩⟩⟩
set_option maxRecDepth 100000 in
theorem g_j2 : g_gmJ g_m2 0 := ⟨g_in 409 (by exact rfl) rfl, g_kc0.1, g_kc0.2.1, g_kc0.2.2, Or.inr ⟨by decide, g_in 407 (by decide +kernel) rfl, ⟨_, _, rfl⟩, Or.inr ⟨rfl, g_in 408 (by decide +kernel) rfl⟩⟩⟩
set_option maxRecDepth 100000 in
theorem g_j3 : g_gmJ g_m3 0 := ⟨g_in 566 (by exact rfl) rfl, g_kc0.1, g_kc0.2.1, g_kc0.2.2, Or.inr ⟨by decide, g_in 564 (by decide +kernel) rfl, ⟨_, _, rfl⟩, Or.inr ⟨rfl, g_in 565 (by decide +kernel) rfl⟩⟩⟩
set_option maxRecDepth 100000 in
theorem g_j4 : g_gmJ g_m4 0 := ⟨g_in 558 (by exact rfl) rfl, g_kc0.1, g_kc0.2.1, g_kc0.2.2, Or.inr ⟨by decide, g_in 556 (by decide +kernel) rfl, ⟨_, _, rfl⟩, Or.inr ⟨rfl, g_in 557 (by decide +kernel) rfl⟩⟩⟩
set_option maxRecDepth 100000 in
theorem g_j5 : g_gmJ g_m5 0 := ⟨g_in 562 (by exact rfl) rfl, g_kc0.1, g_kc0.2.1, g_kc0.2.2, Or.inr ⟨by decide, g_in 560 (by decide +kernel) rfl, ⟨_, _, rfl⟩, Or.inr ⟨rfl, g_in 561 (by decide +kernel) rfl⟩⟩⟩
set_option maxRecDepth 100000 in
theorem g_j6 : g_gmJ g_m6 0 := ⟨g_in 645 (by exact rfl) rfl, g_kc0.1, g_kc0.2.1, g_kc0.2.2, Or.inr ⟨by decide, g_in 643 (by decide +kernel) rfl, ⟨_, _, rfl⟩, Or.inr ⟨rfl, g_in 644 (by decide +kernel) rfl⟩⟩⟩
set_option maxRecDepth 100000 in
theorem g_j7 : g_gmJ g_m7 0 := ⟨g_in 546 (by exact rfl) rfl, g_kc0.1, g_kc0.2.1, g_kc0.2.2, Or.inr ⟨by decide, g_in 544 (by decide +kernel) rfl, ⟨_, _, rfl⟩, Or.inr ⟨rfl, g_in 545 (by decide +kernel) rfl⟩⟩⟩
set_option maxRecDepth 100000 in
theorem g_j8 : g_gmJ g_m8 0 := ⟨g_in 526 (by exact rfl) rfl, g_kc0.1, g_kc0.2.1, g_kc0.2.2, Or.inr ⟨by decide, g_in 524 (by decide +kernel) rfl, ⟨_, _, rfl⟩, Or.inr ⟨rfl, g_in 525 (by decide +kernel) rfl⟩⟩⟩
set_option maxRecDepth 100000 in
theorem g_j9 : g_gmJ g_m9 0 := ⟨g_in 538 (by exact rfl) rfl, g_kc0.1, g_kc0.2.1, g_kc0.2.2, Or.inr ⟨by decide, g_in 536 (by decide +kernel) rfl, ⟨_, _, rfl⟩, Or.inr ⟨rfl, g_in 537 (by decide +kernel) rfl⟩⟩⟩
set_option maxRecDepth 100000 in
theorem g_j10 : g_gmJ g_m10 0 := ⟨g_in 745 (by exact rfl) rfl, g_kc0.1, g_kc0.2.1, g_kc0.2.2, Or.inr ⟨by decide, g_in 743 (by decide +kernel) rfl, ⟨_, _, rfl⟩, Or.inr ⟨rfl, g_in 744 (by decide +kernel) rfl⟩⟩⟩
set_option maxRecDepth 100000 in
theorem g_j11 : g_gmJ g_m11 0 := ⟨g_in 587 (by exact rfl) rfl, g_kc0.1, g_kc0.2.1, g_kc0.2.2, Or.inr ⟨by decide, g_in 585 (by decide +kernel) rfl, ⟨_, _, rfl⟩, Or.inr ⟨rfl, g_in 586 (by decide +kernel) rfl⟩⟩⟩
set_option maxRecDepth 100000 in
theorem g_j12 : g_gmJ g_m12 0 := ⟨g_in 993 (by exact rfl) rfl, g_kc0.1, g_kc0.2.1, g_kc0.2.2, Or.inr ⟨by decide, g_in 991 (by decide +kernel) rfl, ⟨_, _, rfl⟩, Or.inr ⟨rfl, g_in 992 (by decide +kernel) rfl⟩⟩⟩
set_option maxRecDepth 100000 in
theorem g_j13 : g_gmJ g_m13 0 := ⟨g_in 599 (by exact rfl) rfl, g_kc0.1, g_kc0.2.1, g_kc0.2.2, Or.inr ⟨by decide, g_in 597 (by decide +kernel) rfl, ⟨_, _, rfl⟩, Or.inr ⟨rfl, g_in 598 (by decide +kernel) rfl⟩⟩⟩
set_option maxRecDepth 100000 in
theorem g_j14 : g_gmJ g_m14 0 := ⟨g_in 669 (by exact rfl) rfl, g_kc0.1, g_kc0.2.1, g_kc0.2.2, Or.inr ⟨by decide, g_in 667 (by decide +kernel) rfl, ⟨_, _, rfl⟩, Or.inr ⟨rfl, g_in 668 (by decide +kernel) rfl⟩⟩⟩
set_option maxRecDepth 100000 in
theorem g_j15 : g_gmJ g_m15 0 := ⟨g_in 673 (by exact rfl) rfl, g_kc0.1, g_kc0.2.1, g_kc0.2.2, Or.inr ⟨by decide, g_in 672 (by decide +kernel) rfl, ⟨_, _, rfl⟩, Or.inr ⟨rfl, g_in 16 (by decide +kernel) rfl⟩⟩⟩
set_option maxRecDepth 100000 in
theorem g_j16 : g_gmJ g_m16 0 := ⟨g_in 550 (by exact rfl) rfl, g_kc0.1, g_kc0.2.1, g_kc0.2.2, Or.inr ⟨by decide, g_in 548 (by decide +kernel) rfl, ⟨_, _, rfl⟩, Or.inr ⟨rfl, g_in 549 (by decide +kernel) rfl⟩⟩⟩
set_option maxRecDepth 100000 in
theorem g_j17 : g_gmJ g_m17 1 := ⟨g_in 274 (by exact rfl) rfl, g_kc1.1, g_kc1.2.1, g_kc1.2.2, Or.inr ⟨by decide, g_in 273 (by decide +kernel) rfl, ⟨_, _, rfl⟩, Or.inl ⟨rfl, rfl, rfl⟩⟩⟩
set_option maxRecDepth 100000 in
theorem g_j18 : g_gmJ g_m18 1 := ⟨g_in 727 (by exact rfl) rfl, g_kc1.1, g_kc1.2.1, g_kc1.2.2, Or.inr ⟨by decide, g_in 725 (by decide +kernel) rfl, ⟨_, _, rfl⟩, Or.inr ⟨rfl, g_in 726 (by decide +kernel) rfl⟩⟩⟩
set_option maxRecDepth 100000 in
theorem g_j19 : g_gmJ g_m19 1 := ⟨g_in 736 (by exact rfl) rfl, g_kc1.1, g_kc1.2.1, g_kc1.2.2, Or.inr ⟨by decide, g_in 734 (by decide +kernel) rfl, ⟨_, _, rfl⟩, Or.inr ⟨rfl, g_in 735 (by decide +kernel) rfl⟩⟩⟩
set_option maxRecDepth 100000 in
theorem g_j20 : g_gmJ g_m20 1 := ⟨g_in 740 (by exact rfl) rfl, g_kc1.1, g_kc1.2.1, g_kc1.2.2, Or.inr ⟨by decide, g_in 738 (by decide +kernel) rfl, ⟨_, _, rfl⟩, Or.inr ⟨rfl, g_in 739 (by decide +kernel) rfl⟩⟩⟩
set_option maxRecDepth 100000 in
theorem g_j21 : g_gmJ g_m21 1 := ⟨g_in 756 (by exact rfl) rfl, g_kc1.1, g_kc1.2.1, g_kc1.2.2, Or.inr ⟨by decide, g_in 754 (by decide +kernel) rfl, ⟨_, _, rfl⟩, Or.inr ⟨rfl, g_in 755 (by decide +kernel) rfl⟩⟩⟩
set_option maxRecDepth 100000 in
theorem g_j22 : g_gmJ g_m22 2 := ⟨g_in 258 (by exact rfl) rfl, g_kc2.1, g_kc2.2.1, g_kc2.2.2, Or.inr ⟨by decide, g_in 257 (by decide +kernel) rfl, ⟨_, _, rfl⟩, Or.inl ⟨rfl, rfl, rfl⟩⟩⟩
set_option maxRecDepth 100000 in
theorem g_j23 : g_gmJ g_m23 2 := ⟨g_in 603 (by exact rfl) rfl, g_kc2.1, g_kc2.2.1, g_kc2.2.2, Or.inr ⟨by decide, g_in 601 (by decide +kernel) rfl, ⟨_, _, rfl⟩, Or.inr ⟨rfl, g_in 602 (by decide +kernel) rfl⟩⟩⟩
set_option maxRecDepth 100000 in
theorem g_j24 : g_gmJ g_m24 2 := ⟨g_in 607 (by exact rfl) rfl, g_kc2.1, g_kc2.2.1, g_kc2.2.2, Or.inr ⟨by decide, g_in 606 (by decide +kernel) rfl, ⟨_, _, rfl⟩, Or.inr ⟨rfl, g_in 12 (by decide +kernel) rfl⟩⟩⟩
set_option maxRecDepth 100000 in
theorem g_j25 : g_gmJ g_m25 2 := ⟨g_in 613 (by exact rfl) rfl, g_kc2.1, g_kc2.2.1, g_kc2.2.2, Or.inr ⟨by decide, g_in 612 (by decide +kernel) rfl, ⟨_, _, rfl⟩, Or.inr ⟨rfl, g_in 13 (by decide +kernel) rfl⟩⟩⟩
set_option maxRecDepth 100000 in
theorem g_j26 : g_gmJ g_m26 2 := ⟨g_in 617 (by exact rfl) rfl, g_kc2.1, g_kc2.2.1, g_kc2.2.2, Or.inr ⟨by decide, g_in 616 (by decide +kernel) rfl, ⟨_, _, rfl⟩, Or.inr ⟨rfl, g_in 14 (by decide +kernel) rfl⟩⟩⟩
set_option maxRecDepth 100000 in
theorem g_j27 : g_gmJ g_m27 2 := ⟨g_in 661 (by exact rfl) rfl, g_kc2.1, g_kc2.2.1, g_kc2.2.2, Or.inr ⟨by decide, g_in 659 (by decide +kernel) rfl, ⟨_, _, rfl⟩, Or.inr ⟨rfl, g_in 660 (by decide +kernel) rfl⟩⟩⟩
set_option maxRecDepth 100000 in
theorem g_j28 : g_gmJ g_m28 2 := ⟨g_in 621 (by exact rfl) rfl, g_kc2.1, g_kc2.2.1, g_kc2.2.2, Or.inr ⟨by decide, g_in 619 (by decide +kernel) rfl, ⟨_, _, rfl⟩, Or.inr ⟨rfl, g_in 620 (by decide +kernel) rfl⟩⟩⟩
set_option maxRecDepth 100000 in
theorem g_j29 : g_gmJ g_m29 2 := ⟨g_in 634 (by exact rfl) rfl, g_kc2.1, g_kc2.2.1, g_kc2.2.2, Or.inr ⟨by decide, g_in 632 (by decide +kernel) rfl, ⟨_, _, rfl⟩, Or.inr ⟨rfl, g_in 633 (by decide +kernel) rfl⟩⟩⟩
set_option maxRecDepth 100000 in
theorem g_j30 : g_gmJ g_m30 2 := ⟨g_in 625 (by exact rfl) rfl, g_kc2.1, g_kc2.2.1, g_kc2.2.2, Or.inr ⟨by decide, g_in 624 (by decide +kernel) rfl, ⟨_, _, rfl⟩, Or.inr ⟨rfl, g_in 15 (by decide +kernel) rfl⟩⟩⟩
set_option maxRecDepth 100000 in
theorem g_j31 : g_gmJ g_m31 3 := ⟨g_in 292 (by exact rfl) rfl, g_kc3.1, g_kc3.2.1, g_kc3.2.2, Or.inr ⟨by decide, g_in 291 (by decide +kernel) rfl, ⟨_, _, rfl⟩, Or.inl ⟨rfl, rfl, rfl⟩⟩⟩
set_option maxRecDepth 100000 in
theorem g_j32 : g_gmJ g_m32 3 := ⟨g_in 785 (by exact rfl) rfl, g_kc3.1, g_kc3.2.1, g_kc3.2.2, Or.inr ⟨by decide, g_in 783 (by decide +kernel) rfl, ⟨_, _, rfl⟩, Or.inr ⟨rfl, g_in 784 (by decide +kernel) rfl⟩⟩⟩
set_option maxRecDepth 100000 in
theorem g_j33 : g_gmJ g_m33 3 := ⟨g_in 790 (by exact rfl) rfl, g_kc3.1, g_kc3.2.1, g_kc3.2.2, Or.inr ⟨by decide, g_in 788 (by decide +kernel) rfl, ⟨_, _, rfl⟩, Or.inr ⟨rfl, g_in 789 (by decide +kernel) rfl⟩⟩⟩
set_option maxRecDepth 100000 in
theorem g_j34 : g_gmJ g_m34 3 := ⟨g_in 794 (by exact rfl) rfl, g_kc3.1, g_kc3.2.1, g_kc3.2.2, Or.inr ⟨by decide, g_in 793 (by decide +kernel) rfl, ⟨_, _, rfl⟩, Or.inr ⟨rfl, g_in 22 (by decide +kernel) rfl⟩⟩⟩
set_option maxRecDepth 100000 in
theorem g_j35 : g_gmJ g_m35 3 := ⟨g_in 799 (by exact rfl) rfl, g_kc3.1, g_kc3.2.1, g_kc3.2.2, Or.inr ⟨by decide, g_in 798 (by decide +kernel) rfl, ⟨_, _, rfl⟩, Or.inr ⟨rfl, g_in 23 (by decide +kernel) rfl⟩⟩⟩
set_option maxRecDepth 100000 in
theorem g_j36 : g_gmJ g_m36 3 := ⟨g_in 803 (by exact rfl) rfl, g_kc3.1, g_kc3.2.1, g_kc3.2.2, Or.inr ⟨by decide, g_in 801 (by decide +kernel) rfl, ⟨_, _, rfl⟩, Or.inr ⟨rfl, g_in 802 (by decide +kernel) rfl⟩⟩⟩
set_option maxRecDepth 100000 in
theorem g_j37 : g_gmJ g_m37 3 := ⟨g_in 807 (by exact rfl) rfl, g_kc3.1, g_kc3.2.1, g_kc3.2.2, Or.inr ⟨by decide, g_in 805 (by decide +kernel) rfl, ⟨_, _, rfl⟩, Or.inr ⟨rfl, g_in 806 (by decide +kernel) rfl⟩⟩⟩
set_option maxRecDepth 100000 in
theorem g_j38 : g_gmJ g_m38 3 := ⟨g_in 811 (by exact rfl) rfl, g_kc3.1, g_kc3.2.1, g_kc3.2.2, Or.inr ⟨by decide, g_in 809 (by decide +kernel) rfl, ⟨_, _, rfl⟩, Or.inr ⟨rfl, g_in 810 (by decide +kernel) rfl⟩⟩⟩
set_option maxRecDepth 100000 in
theorem g_j39 : g_gmJ g_m39 3 := ⟨g_in 816 (by exact rfl) rfl, g_kc3.1, g_kc3.2.1, g_kc3.2.2, Or.inr ⟨by decide, g_in 815 (by decide +kernel) rfl, ⟨_, _, rfl⟩, Or.inr ⟨rfl, g_in 24 (by decide +kernel) rfl⟩⟩⟩
set_option maxRecDepth 100000 in
theorem g_j40 : g_gmJ g_m40 3 := ⟨g_in 824 (by exact rfl) rfl, g_kc3.1, g_kc3.2.1, g_kc3.2.2, Or.inr ⟨by decide, g_in 822 (by decide +kernel) rfl, ⟨_, _, rfl⟩, Or.inr ⟨rfl, g_in 823 (by decide +kernel) rfl⟩⟩⟩
set_option maxRecDepth 100000 in
theorem g_j41 : g_gmJ g_m41 3 := ⟨g_in 828 (by exact rfl) rfl, g_kc3.1, g_kc3.2.1, g_kc3.2.2, Or.inr ⟨by decide, g_in 827 (by decide +kernel) rfl, ⟨_, _, rfl⟩, Or.inr ⟨rfl, g_in 25 (by decide +kernel) rfl⟩⟩⟩
set_option maxRecDepth 100000 in
theorem g_j42 : g_gmJ g_m42 3 := ⟨g_in 833 (by exact rfl) rfl, g_kc3.1, g_kc3.2.1, g_kc3.2.2, Or.inr ⟨by decide, g_in 831 (by decide +kernel) rfl, ⟨_, _, rfl⟩, Or.inr ⟨rfl, g_in 832 (by decide +kernel) rfl⟩⟩⟩
set_option maxRecDepth 100000 in
theorem g_j43 : g_gmJ g_m43 3 := ⟨g_in 837 (by exact rfl) rfl, g_kc3.1, g_kc3.2.1, g_kc3.2.2, Or.inr ⟨by decide, g_in 836 (by decide +kernel) rfl, ⟨_, _, rfl⟩, Or.inr ⟨rfl, g_in 26 (by decide +kernel) rfl⟩⟩⟩
set_option maxRecDepth 100000 in
theorem g_j44 : g_gmJ g_m44 4 := ⟨g_in 108 (by exact rfl) rfl, g_kc4.1, g_kc4.2.1, g_kc4.2.2, Or.inr ⟨by decide, g_in 107 (by decide +kernel) rfl, ⟨_, _, rfl⟩, Or.inl ⟨rfl, rfl, rfl⟩⟩⟩
set_option maxRecDepth 100000 in
theorem g_j45 : g_gmJ g_m45 4 := ⟨g_in 649 (by exact rfl) rfl, g_kc4.1, g_kc4.2.1, g_kc4.2.2, Or.inr ⟨by decide, g_in 647 (by decide +kernel) rfl, ⟨_, _, rfl⟩, Or.inr ⟨rfl, g_in 648 (by decide +kernel) rfl⟩⟩⟩
set_option maxRecDepth 100000 in
theorem g_j46 : g_gmJ g_m46 4 := ⟨g_in 501 (by exact rfl) rfl, g_kc4.1, g_kc4.2.1, g_kc4.2.2, Or.inr ⟨by decide, g_in 499 (by decide +kernel) rfl, ⟨_, _, rfl⟩, Or.inr ⟨rfl, g_in 500 (by decide +kernel) rfl⟩⟩⟩
set_option maxRecDepth 100000 in
theorem g_j47 : g_gmJ g_m47 4 := ⟨g_in 517 (by exact rfl) rfl, g_kc4.1, g_kc4.2.1, g_kc4.2.2, Or.inr ⟨by decide, g_in 515 (by decide +kernel) rfl, ⟨_, _, rfl⟩, Or.inr ⟨rfl, g_in 516 (by decide +kernel) rfl⟩⟩⟩
set_option maxRecDepth 100000 in
theorem g_j48 : g_gmJ g_m48 4 := ⟨g_in 701 (by exact rfl) rfl, g_kc4.1, g_kc4.2.1, g_kc4.2.2, Or.inr ⟨by decide, g_in 699 (by decide +kernel) rfl, ⟨_, _, rfl⟩, Or.inr ⟨rfl, g_in 700 (by decide +kernel) rfl⟩⟩⟩
set_option maxRecDepth 100000 in
theorem g_j49 : g_gmJ g_m49 4 := ⟨g_in 554 (by exact rfl) rfl, g_kc4.1, g_kc4.2.1, g_kc4.2.2, Or.inr ⟨by decide, g_in 552 (by decide +kernel) rfl, ⟨_, _, rfl⟩, Or.inr ⟨rfl, g_in 553 (by decide +kernel) rfl⟩⟩⟩
set_option maxRecDepth 100000 in
theorem g_j50 : g_gmJ g_m50 4 := ⟨g_in 573 (by exact rfl) rfl, g_kc4.1, g_kc4.2.1, g_kc4.2.2, Or.inr ⟨by decide, g_in 571 (by decide +kernel) rfl, ⟨_, _, rfl⟩, Or.inr ⟨rfl, g_in 572 (by decide +kernel) rfl⟩⟩⟩
set_option maxRecDepth 100000 in
theorem g_j51 : g_gmJ g_m51 5 := ⟨g_in 195 (by exact rfl) rfl, g_kc5.1, g_kc5.2.1, g_kc5.2.2, Or.inr ⟨by decide, g_in 194 (by decide +kernel) rfl, ⟨_, _, rfl⟩, Or.inl ⟨rfl, rfl, rfl⟩⟩⟩
set_option maxRecDepth 100000 in
theorem g_j52 : g_gmJ g_m52 5 := ⟨g_in 405 (by exact rfl) rfl, g_kc5.1, g_kc5.2.1, g_kc5.2.2, Or.inr ⟨by decide, g_in 403 (by decide +kernel) rfl, ⟨_, _, rfl⟩, Or.inr ⟨rfl, g_in 404 (by decide +kernel) rfl⟩⟩⟩
set_option maxRecDepth 100000 in
theorem g_j53 : g_gmJ g_m53 5 := ⟨g_in 425 (by exact rfl) rfl, g_kc5.1, g_kc5.2.1, g_kc5.2.2, Or.inr ⟨by decide, g_in 424 (by decide +kernel) rfl, ⟨_, _, rfl⟩, Or.inr ⟨rfl, g_in 1 (by decide +kernel) rfl⟩⟩⟩
set_option maxRecDepth 100000 in
theorem g_j54 : g_gmJ g_m54 5 := ⟨g_in 417 (by exact rfl) rfl, g_kc5.1, g_kc5.2.1, g_kc5.2.2, Or.inr ⟨by decide, g_in 416 (by decide +kernel) rfl, ⟨_, _, rfl⟩, Or.inr ⟨rfl, g_in 0 (by decide +kernel) rfl⟩⟩⟩
set_option maxRecDepth 100000 in
theorem g_j55 : g_gmJ g_m55 5 := ⟨g_in 513 (by exact rfl) rfl, g_kc5.1, g_kc5.2.1, g_kc5.2.2, Or.inr ⟨by decide, g_in 512 (by decide +kernel) rfl, ⟨_, _, rfl⟩, Or.inr ⟨rfl, g_in 7 (by decide +kernel) rfl⟩⟩⟩
set_option maxRecDepth 100000 in
theorem g_j56 : g_gmJ g_m56 5 := ⟨g_in 429 (by exact rfl) rfl, g_kc5.1, g_kc5.2.1, g_kc5.2.2, Or.inr ⟨by decide, g_in 428 (by decide +kernel) rfl, ⟨_, _, rfl⟩, Or.inr ⟨rfl, g_in 2 (by decide +kernel) rfl⟩⟩⟩
set_option maxRecDepth 100000 in
theorem g_j57 : g_gmJ g_m57 5 := ⟨g_in 505 (by exact rfl) rfl, g_kc5.1, g_kc5.2.1, g_kc5.2.2, Or.inr ⟨by decide, g_in 504 (by decide +kernel) rfl, ⟨_, _, rfl⟩, Or.inr ⟨rfl, g_in 5 (by decide +kernel) rfl⟩⟩⟩
set_option maxRecDepth 100000 in
theorem g_j58 : g_gmJ g_m58 5 := ⟨g_in 509 (by exact rfl) rfl, g_kc5.1, g_kc5.2.1, g_kc5.2.2, Or.inr ⟨by decide, g_in 508 (by decide +kernel) rfl, ⟨_, _, rfl⟩, Or.inr ⟨rfl, g_in 6 (by decide +kernel) rfl⟩⟩⟩
set_option maxRecDepth 100000 in
theorem g_j59 : g_gmJ g_m59 5 := ⟨g_in 542 (by exact rfl) rfl, g_kc5.1, g_kc5.2.1, g_kc5.2.2, Or.inr ⟨by decide, g_in 541 (by decide +kernel) rfl, ⟨_, _, rfl⟩, Or.inr ⟨rfl, g_in 11 (by decide +kernel) rfl⟩⟩⟩
set_option maxRecDepth 100000 in
theorem g_j60 : g_gmJ g_m60 5 := ⟨g_in 497 (by exact rfl) rfl, g_kc5.1, g_kc5.2.1, g_kc5.2.2, Or.inr ⟨by decide, g_in 496 (by decide +kernel) rfl, ⟨_, _, rfl⟩, Or.inr ⟨rfl, g_in 4 (by decide +kernel) rfl⟩⟩⟩
set_option maxRecDepth 100000 in
theorem g_j61 : g_gmJ g_m61 5 := ⟨g_in 522 (by exact rfl) rfl, g_kc5.1, g_kc5.2.1, g_kc5.2.2, Or.inr ⟨by decide, g_in 521 (by decide +kernel) rfl, ⟨_, _, rfl⟩, Or.inr ⟨rfl, g_in 8 (by decide +kernel) rfl⟩⟩⟩
set_option maxRecDepth 100000 in
theorem g_j62 : g_gmJ g_m62 5 := ⟨g_in 530 (by exact rfl) rfl, g_kc5.1, g_kc5.2.1, g_kc5.2.2, Or.inr ⟨by decide, g_in 529 (by decide +kernel) rfl, ⟨_, _, rfl⟩, Or.inr ⟨rfl, g_in 9 (by decide +kernel) rfl⟩⟩⟩
set_option maxRecDepth 100000 in
theorem g_j63 : g_gmJ g_m63 5 := ⟨g_in 534 (by exact rfl) rfl, g_kc5.1, g_kc5.2.1, g_kc5.2.2, Or.inr ⟨by decide, g_in 533 (by decide +kernel) rfl, ⟨_, _, rfl⟩, Or.inr ⟨rfl, g_in 10 (by decide +kernel) rfl⟩⟩⟩
set_option maxRecDepth 100000 in
theorem g_j64 : g_gmJ g_m64 6 := ⟨g_in 332 (by exact rfl) rfl, g_kc6.1, g_kc6.2.1, g_kc6.2.2, Or.inr ⟨by decide, g_in 331 (by decide +kernel) rfl, ⟨_, _, rfl⟩, Or.inl ⟨rfl, rfl, rfl⟩⟩⟩
set_option maxRecDepth 100000 in
theorem g_j65 : g_gmJ g_m65 99 := ⟨g_in 945 (by exact rfl) rfl, g_kc6.1, g_kc6.2.1, g_kc6.2.2, Or.inl ⟨rfl, g_in 944 (by decide +kernel) rfl⟩⟩
set_option maxRecDepth 100000 in
theorem g_j66 : g_gmJ g_m66 99 := ⟨g_in 948 (by exact rfl) rfl, g_kc6.1, g_kc6.2.1, g_kc6.2.2, Or.inl ⟨rfl, g_in 947 (by decide +kernel) rfl⟩⟩
set_option maxRecDepth 100000 in
theorem g_j67 : g_gmJ g_m67 6 := ⟨g_in 952 (by exact rfl) rfl, g_kc6.1, g_kc6.2.1, g_kc6.2.2, Or.inr ⟨by decide, g_in 950 (by decide +kernel) rfl, ⟨_, _, rfl⟩, Or.inr ⟨rfl, g_in 951 (by decide +kernel) rfl⟩⟩⟩
set_option maxRecDepth 100000 in
theorem g_j68 : g_gmJ g_m68 6 := ⟨g_in 960 (by exact rfl) rfl, g_kc6.1, g_kc6.2.1, g_kc6.2.2, Or.inr ⟨by decide, g_in 958 (by decide +kernel) rfl, ⟨_, _, rfl⟩, Or.inr ⟨rfl, g_in 959 (by decide +kernel) rfl⟩⟩⟩
set_option maxRecDepth 100000 in
theorem g_j69 : g_gmJ g_m69 6 := ⟨g_in 972 (by exact rfl) rfl, g_kc6.1, g_kc6.2.1, g_kc6.2.2, Or.inr ⟨by decide, g_in 970 (by decide +kernel) rfl, ⟨_, _, rfl⟩, Or.inr ⟨rfl, g_in 971 (by decide +kernel) rfl⟩⟩⟩
set_option maxRecDepth 100000 in
theorem g_j70 : g_gmJ g_m70 6 := ⟨g_in 964 (by exact rfl) rfl, g_kc6.1, g_kc6.2.1, g_kc6.2.2, Or.inr ⟨by decide, g_in 962 (by decide +kernel) rfl, ⟨_, _, rfl⟩, Or.inr ⟨rfl, g_in 963 (by decide +kernel) rfl⟩⟩⟩
set_option maxRecDepth 100000 in
theorem g_j71 : g_gmJ g_m71 6 := ⟨g_in 977 (by exact rfl) rfl, g_kc6.1, g_kc6.2.1, g_kc6.2.2, Or.inr ⟨by decide, g_in 975 (by decide +kernel) rfl, ⟨_, _, rfl⟩, Or.inr ⟨rfl, g_in 976 (by decide +kernel) rfl⟩⟩⟩
set_option maxRecDepth 100000 in
theorem g_j72 : g_gmJ g_m72 7 := ⟨g_in 201 (by exact rfl) rfl, g_kc7.1, g_kc7.2.1, g_kc7.2.2, Or.inr ⟨by decide, g_in 200 (by decide +kernel) rfl, ⟨_, _, rfl⟩, Or.inl ⟨rfl, rfl, rfl⟩⟩⟩
set_option maxRecDepth 100000 in
theorem g_j73 : g_gmJ g_m73 7 := ⟨g_in 393 (by exact rfl) rfl, g_kc7.1, g_kc7.2.1, g_kc7.2.2, Or.inr ⟨by decide, g_in 391 (by decide +kernel) rfl, ⟨_, _, rfl⟩, Or.inr ⟨rfl, g_in 392 (by decide +kernel) rfl⟩⟩⟩
set_option maxRecDepth 100000 in
theorem g_j74 : g_gmJ g_m74 7 := ⟨g_in 413 (by exact rfl) rfl, g_kc7.1, g_kc7.2.1, g_kc7.2.2, Or.inr ⟨by decide, g_in 411 (by decide +kernel) rfl, ⟨_, _, rfl⟩, Or.inr ⟨rfl, g_in 412 (by decide +kernel) rfl⟩⟩⟩
set_option maxRecDepth 100000 in
theorem g_j75 : g_gmJ g_m75 7 := ⟨g_in 421 (by exact rfl) rfl, g_kc7.1, g_kc7.2.1, g_kc7.2.2, Or.inr ⟨by decide, g_in 419 (by decide +kernel) rfl, ⟨_, _, rfl⟩, Or.inr ⟨rfl, g_in 420 (by decide +kernel) rfl⟩⟩⟩
set_option maxRecDepth 100000 in
theorem g_j76 : g_gmJ g_m76 7 := ⟨g_in 433 (by exact rfl) rfl, g_kc7.1, g_kc7.2.1, g_kc7.2.2, Or.inr ⟨by decide, g_in 431 (by decide +kernel) rfl, ⟨_, _, rfl⟩, Or.inr ⟨rfl, g_in 432 (by decide +kernel) rfl⟩⟩⟩
set_option maxRecDepth 100000 in
theorem g_j77 : g_gmJ g_m77 7 := ⟨g_in 438 (by exact rfl) rfl, g_kc7.1, g_kc7.2.1, g_kc7.2.2, Or.inr ⟨by decide, g_in 437 (by decide +kernel) rfl, ⟨_, _, rfl⟩, Or.inr ⟨rfl, g_in 3 (by decide +kernel) rfl⟩⟩⟩
set_option maxRecDepth 100000 in
theorem g_j78 : g_gmJ g_m78 8 := ⟨g_in 315 (by exact rfl) rfl, g_kc8.1, g_kc8.2.1, g_kc8.2.2, Or.inr ⟨by decide, g_in 314 (by decide +kernel) rfl, ⟨_, _, rfl⟩, Or.inl ⟨rfl, rfl, rfl⟩⟩⟩
set_option maxRecDepth 100000 in
theorem g_j79 : g_gmJ g_m79 8 := ⟨g_in 883 (by exact rfl) rfl, g_kc8.1, g_kc8.2.1, g_kc8.2.2, Or.inr ⟨by decide, g_in 881 (by decide +kernel) rfl, ⟨_, _, rfl⟩, Or.inr ⟨rfl, g_in 882 (by decide +kernel) rfl⟩⟩⟩
set_option maxRecDepth 100000 in
theorem g_j80 : g_gmJ g_m80 8 := ⟨g_in 899 (by exact rfl) rfl, g_kc8.1, g_kc8.2.1, g_kc8.2.2, Or.inr ⟨by decide, g_in 897 (by decide +kernel) rfl, ⟨_, _, rfl⟩, Or.inr ⟨rfl, g_in 898 (by decide +kernel) rfl⟩⟩⟩
set_option maxRecDepth 100000 in
theorem g_j81 : g_gmJ g_m81 9 := ⟨g_in 94 (by exact rfl) rfl, g_kc9.1, g_kc9.2.1, g_kc9.2.2, Or.inr ⟨by decide, g_in 93 (by decide +kernel) rfl, ⟨_, _, rfl⟩, Or.inl ⟨rfl, rfl, rfl⟩⟩⟩
set_option maxRecDepth 100000 in
theorem g_j82 : g_gmJ g_m82 9 := ⟨g_in 389 (by exact rfl) rfl, g_kc9.1, g_kc9.2.1, g_kc9.2.2, Or.inr ⟨by decide, g_in 387 (by decide +kernel) rfl, ⟨_, _, rfl⟩, Or.inr ⟨rfl, g_in 388 (by decide +kernel) rfl⟩⟩⟩
set_option maxRecDepth 100000 in
theorem g_j83 : g_gmJ g_m83 9 := ⟨g_in 397 (by exact rfl) rfl, g_kc9.1, g_kc9.2.1, g_kc9.2.2, Or.inr ⟨by decide, g_in 395 (by decide +kernel) rfl, ⟨_, _, rfl⟩, Or.inr ⟨rfl, g_in 396 (by decide +kernel) rfl⟩⟩⟩
set_option maxRecDepth 100000 in
theorem g_j84 : g_gmJ g_m84 9 := ⟨g_in 401 (by exact rfl) rfl, g_kc9.1, g_kc9.2.1, g_kc9.2.2, Or.inr ⟨by decide, g_in 399 (by decide +kernel) rfl, ⟨_, _, rfl⟩, Or.inr ⟨rfl, g_in 400 (by decide +kernel) rfl⟩⟩⟩
set_option maxRecDepth 100000 in
theorem g_j85 : g_gmJ g_m85 9 := ⟨g_in 579 (by exact rfl) rfl, g_kc9.1, g_kc9.2.1, g_kc9.2.2, Or.inr ⟨by decide, g_in 577 (by decide +kernel) rfl, ⟨_, _, rfl⟩, Or.inr ⟨rfl, g_in 578 (by decide +kernel) rfl⟩⟩⟩
set_option maxRecDepth 100000 in
theorem g_j86 : g_gmJ g_m86 9 := ⟨g_in 583 (by exact rfl) rfl, g_kc9.1, g_kc9.2.1, g_kc9.2.2, Or.inr ⟨by decide, g_in 581 (by decide +kernel) rfl, ⟨_, _, rfl⟩, Or.inr ⟨rfl, g_in 582 (by decide +kernel) rfl⟩⟩⟩
set_option maxRecDepth 100000 in
theorem g_j87 : g_gmJ g_m87 9 := ⟨g_in 591 (by exact rfl) rfl, g_kc9.1, g_kc9.2.1, g_kc9.2.2, Or.inr ⟨by decide, g_in 589 (by decide +kernel) rfl, ⟨_, _, rfl⟩, Or.inr ⟨rfl, g_in 590 (by decide +kernel) rfl⟩⟩⟩
set_option maxRecDepth 100000 in
theorem g_j88 : g_gmJ g_m88 9 := ⟨g_in 629 (by exact rfl) rfl, g_kc9.1, g_kc9.2.1, g_kc9.2.2, Or.inr ⟨by decide, g_in 627 (by decide +kernel) rfl, ⟨_, _, rfl⟩, Or.inr ⟨rfl, g_in 628 (by decide +kernel) rfl⟩⟩⟩
set_option maxRecDepth 100000 in
theorem g_j89 : g_gmJ g_m89 9 := ⟨g_in 638 (by exact rfl) rfl, g_kc9.1, g_kc9.2.1, g_kc9.2.2, Or.inr ⟨by decide, g_in 636 (by decide +kernel) rfl, ⟨_, _, rfl⟩, Or.inr ⟨rfl, g_in 637 (by decide +kernel) rfl⟩⟩⟩
set_option maxRecDepth 100000 in
theorem g_j90 : g_gmJ g_m90 9 := ⟨g_in 653 (by exact rfl) rfl, g_kc9.1, g_kc9.2.1, g_kc9.2.2, Or.inr ⟨by decide, g_in 651 (by decide +kernel) rfl, ⟨_, _, rfl⟩, Or.inr ⟨rfl, g_in 652 (by decide +kernel) rfl⟩⟩⟩
set_option maxRecDepth 100000 in
theorem g_j91 : g_gmJ g_m91 9 := ⟨g_in 657 (by exact rfl) rfl, g_kc9.1, g_kc9.2.1, g_kc9.2.2, Or.inr ⟨by decide, g_in 655 (by decide +kernel) rfl, ⟨_, _, rfl⟩, Or.inr ⟨rfl, g_in 656 (by decide +kernel) rfl⟩⟩⟩
set_option maxRecDepth 100000 in
theorem g_j92 : g_gmJ g_m92 9 := ⟨g_in 665 (by exact rfl) rfl, g_kc9.1, g_kc9.2.1, g_kc9.2.2, Or.inr ⟨by decide, g_in 663 (by decide +kernel) rfl, ⟨_, _, rfl⟩, Or.inr ⟨rfl, g_in 664 (by decide +kernel) rfl⟩⟩⟩
set_option maxRecDepth 100000 in
theorem g_j93 : g_gmJ g_m93 9 := ⟨g_in 680 (by exact rfl) rfl, g_kc9.1, g_kc9.2.1, g_kc9.2.2, Or.inr ⟨by decide, g_in 678 (by decide +kernel) rfl, ⟨_, _, rfl⟩, Or.inr ⟨rfl, g_in 679 (by decide +kernel) rfl⟩⟩⟩
set_option maxRecDepth 100000 in
theorem g_j94 : g_gmJ g_m94 9 := ⟨g_in 684 (by exact rfl) rfl, g_kc9.1, g_kc9.2.1, g_kc9.2.2, Or.inr ⟨by decide, g_in 682 (by decide +kernel) rfl, ⟨_, _, rfl⟩, Or.inr ⟨rfl, g_in 683 (by decide +kernel) rfl⟩⟩⟩
set_option maxRecDepth 100000 in
theorem g_j95 : g_gmJ g_m95 9 := ⟨g_in 693 (by exact rfl) rfl, g_kc9.1, g_kc9.2.1, g_kc9.2.2, Or.inr ⟨by decide, g_in 691 (by decide +kernel) rfl, ⟨_, _, rfl⟩, Or.inr ⟨rfl, g_in 692 (by decide +kernel) rfl⟩⟩⟩
set_option maxRecDepth 100000 in
theorem g_j96 : g_gmJ g_m96 9 := ⟨g_in 697 (by exact rfl) rfl, g_kc9.1, g_kc9.2.1, g_kc9.2.2, Or.inr ⟨by decide, g_in 695 (by decide +kernel) rfl, ⟨_, _, rfl⟩, Or.inr ⟨rfl, g_in 696 (by decide +kernel) rfl⟩⟩⟩
set_option maxRecDepth 100000 in
theorem g_j97 : g_gmJ g_m97 9 := ⟨g_in 706 (by exact rfl) rfl, g_kc9.1, g_kc9.2.1, g_kc9.2.2, Or.inr ⟨by decide, g_in 704 (by decide +kernel) rfl, ⟨_, _, rfl⟩, Or.inr ⟨rfl, g_in 705 (by decide +kernel) rfl⟩⟩⟩
set_option maxRecDepth 100000 in
theorem g_j98 : g_gmJ g_m98 9 := ⟨g_in 710 (by exact rfl) rfl, g_kc9.1, g_kc9.2.1, g_kc9.2.2, Or.inr ⟨by decide, g_in 708 (by decide +kernel) rfl, ⟨_, _, rfl⟩, Or.inr ⟨rfl, g_in 709 (by decide +kernel) rfl⟩⟩⟩
set_option maxRecDepth 100000 in
theorem g_j99 : g_gmJ g_m99 9 := ⟨g_in 715 (by exact rfl) rfl, g_kc9.1, g_kc9.2.1, g_kc9.2.2, Or.inr ⟨by decide, g_in 713 (by decide +kernel) rfl, ⟨_, _, rfl⟩, Or.inr ⟨rfl, g_in 714 (by decide +kernel) rfl⟩⟩⟩
set_option maxRecDepth 100000 in
theorem g_j100 : g_gmJ g_m100 9 := ⟨g_in 719 (by exact rfl) rfl, g_kc9.1, g_kc9.2.1, g_kc9.2.2, Or.inr ⟨by decide, g_in 717 (by decide +kernel) rfl, ⟨_, _, rfl⟩, Or.inr ⟨rfl, g_in 718 (by decide +kernel) rfl⟩⟩⟩
set_option maxRecDepth 100000 in
theorem g_j101 : g_gmJ g_m101 9 := ⟨g_in 752 (by exact rfl) rfl, g_kc9.1, g_kc9.2.1, g_kc9.2.2, Or.inr ⟨by decide, g_in 750 (by decide +kernel) rfl, ⟨_, _, rfl⟩, Or.inr ⟨rfl, g_in 751 (by decide +kernel) rfl⟩⟩⟩
set_option maxRecDepth 100000 in
theorem g_j102 : g_gmJ g_m102 9 := ⟨g_in 773 (by exact rfl) rfl, g_kc9.1, g_kc9.2.1, g_kc9.2.2, Or.inr ⟨by decide, g_in 771 (by decide +kernel) rfl, ⟨_, _, rfl⟩, Or.inr ⟨rfl, g_in 772 (by decide +kernel) rfl⟩⟩⟩
set_option maxRecDepth 100000 in
theorem g_j103 : g_gmJ g_m103 9 := ⟨g_in 777 (by exact rfl) rfl, g_kc9.1, g_kc9.2.1, g_kc9.2.2, Or.inr ⟨by decide, g_in 775 (by decide +kernel) rfl, ⟨_, _, rfl⟩, Or.inr ⟨rfl, g_in 776 (by decide +kernel) rfl⟩⟩⟩
set_option maxRecDepth 100000 in
theorem g_j104 : g_gmJ g_m104 9 := ⟨g_in 820 (by exact rfl) rfl, g_kc9.1, g_kc9.2.1, g_kc9.2.2, Or.inr ⟨by decide, g_in 818 (by decide +kernel) rfl, ⟨_, _, rfl⟩, Or.inr ⟨rfl, g_in 819 (by decide +kernel) rfl⟩⟩⟩
set_option maxRecDepth 100000 in
theorem g_j105 : g_gmJ g_m105 9 := ⟨g_in 841 (by exact rfl) rfl, g_kc9.1, g_kc9.2.1, g_kc9.2.2, Or.inr ⟨by decide, g_in 839 (by decide +kernel) rfl, ⟨_, _, rfl⟩, Or.inr ⟨rfl, g_in 840 (by decide +kernel) rfl⟩⟩⟩
set_option maxRecDepth 100000 in
theorem g_j106 : g_gmJ g_m106 9 := ⟨g_in 850 (by exact rfl) rfl, g_kc9.1, g_kc9.2.1, g_kc9.2.2, Or.inr ⟨by decide, g_in 848 (by decide +kernel) rfl, ⟨_, _, rfl⟩, Or.inr ⟨rfl, g_in 849 (by decide +kernel) rfl⟩⟩⟩
set_option maxRecDepth 100000 in
theorem g_j107 : g_gmJ g_m107 9 := ⟨g_in 854 (by exact rfl) rfl, g_kc9.1, g_kc9.2.1, g_kc9.2.2, Or.inr ⟨by decide, g_in 852 (by decide +kernel) rfl, ⟨_, _, rfl⟩, Or.inr ⟨rfl, g_in 853 (by decide +kernel) rfl⟩⟩⟩
set_option maxRecDepth 100000 in
theorem g_j108 : g_gmJ g_m108 9 := ⟨g_in 858 (by exact rfl) rfl, g_kc9.1, g_kc9.2.1, g_kc9.2.2, Or.inr ⟨by decide, g_in 856 (by decide +kernel) rfl, ⟨_, _, rfl⟩, Or.inr ⟨rfl, g_in 857 (by decide +kernel) rfl⟩⟩⟩
set_option maxRecDepth 100000 in
theorem g_j109 : g_gmJ g_m109 9 := ⟨g_in 875 (by exact rfl) rfl, g_kc9.1, g_kc9.2.1, g_kc9.2.2, Or.inr ⟨by decide, g_in 873 (by decide +kernel) rfl, ⟨_, _, rfl⟩, Or.inr ⟨rfl, g_in 874 (by decide +kernel) rfl⟩⟩⟩
set_option maxRecDepth 100000 in
theorem g_j110 : g_gmJ g_m110 9 := ⟨g_in 879 (by exact rfl) rfl, g_kc9.1, g_kc9.2.1, g_kc9.2.2, Or.inr ⟨by decide, g_in 877 (by decide +kernel) rfl, ⟨_, _, rfl⟩, Or.inr ⟨rfl, g_in 878 (by decide +kernel) rfl⟩⟩⟩
set_option maxRecDepth 100000 in
theorem g_j111 : g_gmJ g_m111 9 := ⟨g_in 887 (by exact rfl) rfl, g_kc9.1, g_kc9.2.1, g_kc9.2.2, Or.inr ⟨by decide, g_in 885 (by decide +kernel) rfl, ⟨_, _, rfl⟩, Or.inr ⟨rfl, g_in 886 (by decide +kernel) rfl⟩⟩⟩
set_option maxRecDepth 100000 in
theorem g_j112 : g_gmJ g_m112 9 := ⟨g_in 891 (by exact rfl) rfl, g_kc9.1, g_kc9.2.1, g_kc9.2.2, Or.inr ⟨by decide, g_in 889 (by decide +kernel) rfl, ⟨_, _, rfl⟩, Or.inr ⟨rfl, g_in 890 (by decide +kernel) rfl⟩⟩⟩
set_option maxRecDepth 100000 in
theorem g_j113 : g_gmJ g_m113 9 := ⟨g_in 904 (by exact rfl) rfl, g_kc9.1, g_kc9.2.1, g_kc9.2.2, Or.inr ⟨by decide, g_in 902 (by decide +kernel) rfl, ⟨_, _, rfl⟩, Or.inr ⟨rfl, g_in 903 (by decide +kernel) rfl⟩⟩⟩
set_option maxRecDepth 100000 in
theorem g_j114 : g_gmJ g_m114 9 := ⟨g_in 908 (by exact rfl) rfl, g_kc9.1, g_kc9.2.1, g_kc9.2.2, Or.inr ⟨by decide, g_in 906 (by decide +kernel) rfl, ⟨_, _, rfl⟩, Or.inr ⟨rfl, g_in 907 (by decide +kernel) rfl⟩⟩⟩
set_option maxRecDepth 100000 in
theorem g_j115 : g_gmJ g_m115 9 := ⟨g_in 919 (by exact rfl) rfl, g_kc9.1, g_kc9.2.1, g_kc9.2.2, Or.inr ⟨by decide, g_in 917 (by decide +kernel) rfl, ⟨_, _, rfl⟩, Or.inr ⟨rfl, g_in 918 (by decide +kernel) rfl⟩⟩⟩
set_option maxRecDepth 100000 in
theorem g_j116 : g_gmJ g_m116 9 := ⟨g_in 930 (by exact rfl) rfl, g_kc9.1, g_kc9.2.1, g_kc9.2.2, Or.inr ⟨by decide, g_in 928 (by decide +kernel) rfl, ⟨_, _, rfl⟩, Or.inr ⟨rfl, g_in 929 (by decide +kernel) rfl⟩⟩⟩
set_option maxRecDepth 100000 in
theorem g_j117 : g_gmJ g_m117 9 := ⟨g_in 938 (by exact rfl) rfl, g_kc9.1, g_kc9.2.1, g_kc9.2.2, Or.inr ⟨by decide, g_in 936 (by decide +kernel) rfl, ⟨_, _, rfl⟩, Or.inr ⟨rfl, g_in 937 (by decide +kernel) rfl⟩⟩⟩
set_option maxRecDepth 100000 in
theorem g_j118 : g_gmJ g_m118 9 := ⟨g_in 942 (by exact rfl) rfl, g_kc9.1, g_kc9.2.1, g_kc9.2.2, Or.inr ⟨by decide, g_in 940 (by decide +kernel) rfl, ⟨_, _, rfl⟩, Or.inr ⟨rfl, g_in 941 (by decide +kernel) rfl⟩⟩⟩
set_option maxRecDepth 100000 in
theorem g_j119 : g_gmJ g_m119 9 := ⟨g_in 956 (by exact rfl) rfl, g_kc9.1, g_kc9.2.1, g_kc9.2.2, Or.inr ⟨by decide, g_in 954 (by decide +kernel) rfl, ⟨_, _, rfl⟩, Or.inr ⟨rfl, g_in 955 (by decide +kernel) rfl⟩⟩⟩
set_option maxRecDepth 100000 in
theorem g_j120 : g_gmJ g_m120 9 := ⟨g_in 968 (by exact rfl) rfl, g_kc9.1, g_kc9.2.1, g_kc9.2.2, Or.inr ⟨by decide, g_in 966 (by decide +kernel) rfl, ⟨_, _, rfl⟩, Or.inr ⟨rfl, g_in 967 (by decide +kernel) rfl⟩⟩⟩
set_option maxRecDepth 100000 in
theorem g_j121 : g_gmJ g_m121 9 := ⟨g_in 985 (by exact rfl) rfl, g_kc9.1, g_kc9.2.1, g_kc9.2.2, Or.inr ⟨by decide, g_in 983 (by decide +kernel) rfl, ⟨_, _, rfl⟩, Or.inr ⟨rfl, g_in 984 (by decide +kernel) rfl⟩⟩⟩
set_option maxRecDepth 100000 in
theorem g_j122 : g_gmJ g_m122 9 := ⟨g_in 989 (by exact rfl) rfl, g_kc9.1, g_kc9.2.1, g_kc9.2.2, Or.inr ⟨by decide, g_in 987 (by decide +kernel) rfl, ⟨_, _, rfl⟩, Or.inr ⟨rfl, g_in 988 (by decide +kernel) rfl⟩⟩⟩
set_option maxRecDepth 100000 in
theorem g_j123 : g_gmJ g_m123 99 := ⟨g_in 641 (by exact rfl) rfl, g_kc9.1, g_kc9.2.1, g_kc9.2.2, Or.inl ⟨rfl, g_in 640 (by decide +kernel) rfl⟩⟩
set_option maxRecDepth 100000 in
theorem g_j124 : g_gmJ g_m124 99 := ⟨g_in 676 (by exact rfl) rfl, g_kc9.1, g_kc9.2.1, g_kc9.2.2, Or.inl ⟨rfl, g_in 675 (by decide +kernel) rfl⟩⟩
set_option maxRecDepth 100000 in
theorem g_j125 : g_gmJ g_m125 99 := ⟨g_in 595 (by exact rfl) rfl, g_kc9.1, g_kc9.2.1, g_kc9.2.2, Or.inl ⟨rfl, g_in 594 (by decide +kernel) rfl⟩⟩
set_option maxRecDepth 100000 in
theorem g_j126 : g_gmJ g_m126 9 := ⟨g_in 688 (by exact rfl) rfl, g_kc9.1, g_kc9.2.1, g_kc9.2.2, Or.inr ⟨by decide, g_in 687 (by decide +kernel) rfl, ⟨_, _, rfl⟩, Or.inr ⟨rfl, g_in 17 (by decide +kernel) rfl⟩⟩⟩
set_option maxRecDepth 100000 in
theorem g_j127 : g_gmJ g_m127 9 := ⟨g_in 723 (by exact rfl) rfl, g_kc9.1, g_kc9.2.1, g_kc9.2.2, Or.inr ⟨by decide, g_in 722 (by decide +kernel) rfl, ⟨_, _, rfl⟩, Or.inr ⟨rfl, g_in 18 (by decide +kernel) rfl⟩⟩⟩
set_option maxRecDepth 100000 in
theorem g_j128 : g_gmJ g_m128 9 := ⟨g_in 732 (by exact rfl) rfl, g_kc9.1, g_kc9.2.1, g_kc9.2.2, Or.inr ⟨by decide, g_in 731 (by decide +kernel) rfl, ⟨_, _, rfl⟩, Or.inr ⟨rfl, g_in 19 (by decide +kernel) rfl⟩⟩⟩
set_option maxRecDepth 100000 in
theorem g_j129 : g_gmJ g_m129 9 := ⟨g_in 768 (by exact rfl) rfl, g_kc9.1, g_kc9.2.1, g_kc9.2.2, Or.inr ⟨by decide, g_in 767 (by decide +kernel) rfl, ⟨_, _, rfl⟩, Or.inr ⟨rfl, g_in 20 (by decide +kernel) rfl⟩⟩⟩
set_option maxRecDepth 100000 in
theorem g_j130 : g_gmJ g_m130 9 := ⟨g_in 781 (by exact rfl) rfl, g_kc9.1, g_kc9.2.1, g_kc9.2.2, Or.inr ⟨by decide, g_in 780 (by decide +kernel) rfl, ⟨_, _, rfl⟩, Or.inr ⟨rfl, g_in 21 (by decide +kernel) rfl⟩⟩⟩
set_option maxRecDepth 100000 in
theorem g_j131 : g_gmJ g_m131 9 := ⟨g_in 846 (by exact rfl) rfl, g_kc9.1, g_kc9.2.1, g_kc9.2.2, Or.inr ⟨by decide, g_in 845 (by decide +kernel) rfl, ⟨_, _, rfl⟩, Or.inr ⟨rfl, g_in 27 (by decide +kernel) rfl⟩⟩⟩
set_option maxRecDepth 100000 in
theorem g_j132 : g_gmJ g_m132 9 := ⟨g_in 863 (by exact rfl) rfl, g_kc9.1, g_kc9.2.1, g_kc9.2.2, Or.inr ⟨by decide, g_in 862 (by decide +kernel) rfl, ⟨_, _, rfl⟩, Or.inr ⟨rfl, g_in 28 (by decide +kernel) rfl⟩⟩⟩
set_option maxRecDepth 100000 in
theorem g_j133 : g_gmJ g_m133 9 := ⟨g_in 867 (by exact rfl) rfl, g_kc9.1, g_kc9.2.1, g_kc9.2.2, Or.inr ⟨by decide, g_in 866 (by decide +kernel) rfl, ⟨_, _, rfl⟩, Or.inr ⟨rfl, g_in 29 (by decide +kernel) rfl⟩⟩⟩
set_option maxRecDepth 100000 in
theorem g_j134 : g_gmJ g_m134 99 := ⟨g_in 871 (by exact rfl) rfl, g_kc9.1, g_kc9.2.1, g_kc9.2.2, Or.inl ⟨rfl, g_in 870 (by decide +kernel) rfl⟩⟩
set_option maxRecDepth 100000 in
theorem g_j135 : g_gmJ g_m135 9 := ⟨g_in 895 (by exact rfl) rfl, g_kc9.1, g_kc9.2.1, g_kc9.2.2, Or.inr ⟨by decide, g_in 894 (by decide +kernel) rfl, ⟨_, _, rfl⟩, Or.inr ⟨rfl, g_in 30 (by decide +kernel) rfl⟩⟩⟩
set_option maxRecDepth 100000 in
theorem g_j136 : g_gmJ g_m136 9 := ⟨g_in 912 (by exact rfl) rfl, g_kc9.1, g_kc9.2.1, g_kc9.2.2, Or.inr ⟨by decide, g_in 911 (by decide +kernel) rfl, ⟨_, _, rfl⟩, Or.inr ⟨rfl, g_in 31 (by decide +kernel) rfl⟩⟩⟩
set_option maxRecDepth 100000 in
theorem g_j137 : g_gmJ g_m137 99 := ⟨g_in 922 (by exact rfl) rfl, g_kc9.1, g_kc9.2.1, g_kc9.2.2, Or.inl ⟨rfl, g_in 921 (by decide +kernel) rfl⟩⟩
set_option maxRecDepth 100000 in
theorem g_j138 : g_gmJ g_m138 99 := ⟨g_in 926 (by exact rfl) rfl, g_kc9.1, g_kc9.2.1, g_kc9.2.2, Or.inl ⟨rfl, g_in 925 (by decide +kernel) rfl⟩⟩
set_option maxRecDepth 100000 in
theorem g_j139 : g_gmJ g_m139 9 := ⟨g_in 934 (by exact rfl) rfl, g_kc9.1, g_kc9.2.1, g_kc9.2.2, Or.inr ⟨by decide, g_in 933 (by decide +kernel) rfl, ⟨_, _, rfl⟩, Or.inr ⟨rfl, g_in 32 (by decide +kernel) rfl⟩⟩⟩
set_option maxRecDepth 100000 in
theorem g_j140 : g_gmJ g_m140 9 := ⟨g_in 981 (by exact rfl) rfl, g_kc9.1, g_kc9.2.1, g_kc9.2.2, Or.inr ⟨by decide, g_in 980 (by decide +kernel) rfl, ⟨_, _, rfl⟩, Or.inr ⟨rfl, g_in 33 (by decide +kernel) rfl⟩⟩⟩
set_option maxRecDepth 100000 in
theorem g_j141 : g_gmJ g_m141 10 := ⟨g_in 998 (by exact rfl) rfl, g_kc10.1, g_kc10.2.1, g_kc10.2.2, Or.inr ⟨by decide, g_in 997 (by decide +kernel) rfl, ⟨_, _, rfl⟩, Or.inl ⟨rfl, rfl, rfl⟩⟩⟩
set_option maxRecDepth 100000 in
theorem g_j142 : g_gmJ g_m142 99 := ⟨g_in 1119 (by exact rfl) rfl, g_kc10.1, g_kc10.2.1, g_kc10.2.2, Or.inl ⟨rfl, g_in 1118 (by decide +kernel) rfl⟩⟩
set_option maxRecDepth 100000 in
theorem g_j143 : g_gmJ g_m143 10 := ⟨g_in 1115 (by exact rfl) rfl, g_kc10.1, g_kc10.2.1, g_kc10.2.2, Or.inr ⟨by decide, g_in 1113 (by decide +kernel) rfl, ⟨_, _, rfl⟩, Or.inr ⟨rfl, g_in 1114 (by decide +kernel) rfl⟩⟩⟩
set_option maxRecDepth 100000 in
theorem g_j144 : g_gmJ g_m144 10 := ⟨g_in 1123 (by exact rfl) rfl, g_kc10.1, g_kc10.2.1, g_kc10.2.2, Or.inr ⟨by decide, g_in 1121 (by decide +kernel) rfl, ⟨_, _, rfl⟩, Or.inr ⟨rfl, g_in 1122 (by decide +kernel) rfl⟩⟩⟩
set_option maxRecDepth 100000 in
theorem g_j145 : g_gmJ g_m145 10 := ⟨g_in 1135 (by exact rfl) rfl, g_kc10.1, g_kc10.2.1, g_kc10.2.2, Or.inr ⟨by decide, g_in 1134 (by decide +kernel) rfl, ⟨_, _, rfl⟩, Or.inr ⟨rfl, g_in 35 (by decide +kernel) rfl⟩⟩⟩
set_option maxRecDepth 100000 in
theorem g_j146 : g_gmJ g_m146 10 := ⟨g_in 1143 (by exact rfl) rfl, g_kc10.1, g_kc10.2.1, g_kc10.2.2, Or.inr ⟨by decide, g_in 1142 (by decide +kernel) rfl, ⟨_, _, rfl⟩, Or.inr ⟨rfl, g_in 36 (by decide +kernel) rfl⟩⟩⟩
set_option maxRecDepth 100000 in
theorem g_j147 : g_gmJ g_m147 10 := ⟨g_in 1151 (by exact rfl) rfl, g_kc10.1, g_kc10.2.1, g_kc10.2.2, Or.inr ⟨by decide, g_in 1150 (by decide +kernel) rfl, ⟨_, _, rfl⟩, Or.inr ⟨rfl, g_in 38 (by decide +kernel) rfl⟩⟩⟩
set_option maxRecDepth 100000 in
theorem g_j148 : g_gmJ g_m148 10 := ⟨g_in 1131 (by exact rfl) rfl, g_kc10.1, g_kc10.2.1, g_kc10.2.2, Or.inr ⟨by decide, g_in 1130 (by decide +kernel) rfl, ⟨_, _, rfl⟩, Or.inr ⟨rfl, g_in 34 (by decide +kernel) rfl⟩⟩⟩
set_option maxRecDepth 100000 in
theorem g_j149 : g_gmJ g_m149 10 := ⟨g_in 1160 (by exact rfl) rfl, g_kc10.1, g_kc10.2.1, g_kc10.2.2, Or.inr ⟨by decide, g_in 1159 (by decide +kernel) rfl, ⟨_, _, rfl⟩, Or.inr ⟨rfl, g_in 40 (by decide +kernel) rfl⟩⟩⟩
set_option maxRecDepth 100000 in
theorem g_j150 : g_gmJ g_m150 10 := ⟨g_in 1168 (by exact rfl) rfl, g_kc10.1, g_kc10.2.1, g_kc10.2.2, Or.inr ⟨by decide, g_in 1167 (by decide +kernel) rfl, ⟨_, _, rfl⟩, Or.inr ⟨rfl, g_in 42 (by decide +kernel) rfl⟩⟩⟩
set_option maxRecDepth 100000 in
theorem g_j151 : g_gmJ g_m151 10 := ⟨g_in 1164 (by exact rfl) rfl, g_kc10.1, g_kc10.2.1, g_kc10.2.2, Or.inr ⟨by decide, g_in 1163 (by decide +kernel) rfl, ⟨_, _, rfl⟩, Or.inr ⟨rfl, g_in 41 (by decide +kernel) rfl⟩⟩⟩
set_option maxRecDepth 100000 in
theorem g_j152 : g_gmJ g_m152 10 := ⟨g_in 1172 (by exact rfl) rfl, g_kc10.1, g_kc10.2.1, g_kc10.2.2, Or.inr ⟨by decide, g_in 1171 (by decide +kernel) rfl, ⟨_, _, rfl⟩, Or.inr ⟨rfl, g_in 43 (by decide +kernel) rfl⟩⟩⟩
set_option maxRecDepth 100000 in
theorem g_j153 : g_gmJ g_m153 10 := ⟨g_in 1156 (by exact rfl) rfl, g_kc10.1, g_kc10.2.1, g_kc10.2.2, Or.inr ⟨by decide, g_in 1155 (by decide +kernel) rfl, ⟨_, _, rfl⟩, Or.inr ⟨rfl, g_in 39 (by decide +kernel) rfl⟩⟩⟩
set_option maxRecDepth 100000 in
theorem g_j154 : g_gmJ g_m154 10 := ⟨g_in 1147 (by exact rfl) rfl, g_kc10.1, g_kc10.2.1, g_kc10.2.2, Or.inr ⟨by decide, g_in 1146 (by decide +kernel) rfl, ⟨_, _, rfl⟩, Or.inr ⟨rfl, g_in 37 (by decide +kernel) rfl⟩⟩⟩
set_option maxRecDepth 100000 in
theorem g_j155 : g_gmJ g_m155 10 := ⟨g_in 1127 (by exact rfl) rfl, g_kc10.1, g_kc10.2.1, g_kc10.2.2, Or.inr ⟨by decide, g_in 1125 (by decide +kernel) rfl, ⟨_, _, rfl⟩, Or.inr ⟨rfl, g_in 1126 (by decide +kernel) rfl⟩⟩⟩
set_option maxRecDepth 100000 in
theorem g_j156 : g_gmJ g_m156 10 := ⟨g_in 1176 (by exact rfl) rfl, g_kc10.1, g_kc10.2.1, g_kc10.2.2, Or.inr ⟨by decide, g_in 1174 (by decide +kernel) rfl, ⟨_, _, rfl⟩, Or.inr ⟨rfl, g_in 1175 (by decide +kernel) rfl⟩⟩⟩
set_option maxRecDepth 100000 in
theorem g_j157 : g_gmJ g_m157 10 := ⟨g_in 1192 (by exact rfl) rfl, g_kc10.1, g_kc10.2.1, g_kc10.2.2, Or.inr ⟨by decide, g_in 1191 (by decide +kernel) rfl, ⟨_, _, rfl⟩, Or.inr ⟨rfl, g_in 45 (by decide +kernel) rfl⟩⟩⟩
set_option maxRecDepth 100000 in
theorem g_j158 : g_gmJ g_m158 10 := ⟨g_in 1220 (by exact rfl) rfl, g_kc10.1, g_kc10.2.1, g_kc10.2.2, Or.inr ⟨by decide, g_in 1219 (by decide +kernel) rfl, ⟨_, _, rfl⟩, Or.inr ⟨rfl, g_in 50 (by decide +kernel) rfl⟩⟩⟩
set_option maxRecDepth 100000 in
theorem g_j159 : g_gmJ g_m159 10 := ⟨g_in 1184 (by exact rfl) rfl, g_kc10.1, g_kc10.2.1, g_kc10.2.2, Or.inr ⟨by decide, g_in 1183 (by decide +kernel) rfl, ⟨_, _, rfl⟩, Or.inr ⟨rfl, g_in 44 (by decide +kernel) rfl⟩⟩⟩
set_option maxRecDepth 100000 in
theorem g_j160 : g_gmJ g_m160 10 := ⟨g_in 1180 (by exact rfl) rfl, g_kc10.1, g_kc10.2.1, g_kc10.2.2, Or.inr ⟨by decide, g_in 1178 (by decide +kernel) rfl, ⟨_, _, rfl⟩, Or.inr ⟨rfl, g_in 1179 (by decide +kernel) rfl⟩⟩⟩
set_option maxRecDepth 100000 in
theorem g_j161 : g_gmJ g_m161 10 := ⟨g_in 1201 (by exact rfl) rfl, g_kc10.1, g_kc10.2.1, g_kc10.2.2, Or.inr ⟨by decide, g_in 1200 (by decide +kernel) rfl, ⟨_, _, rfl⟩, Or.inr ⟨rfl, g_in 47 (by decide +kernel) rfl⟩⟩⟩
set_option maxRecDepth 100000 in
theorem g_j162 : g_gmJ g_m162 10 := ⟨g_in 1196 (by exact rfl) rfl, g_kc10.1, g_kc10.2.1, g_kc10.2.2, Or.inr ⟨by decide, g_in 1195 (by decide +kernel) rfl, ⟨_, _, rfl⟩, Or.inr ⟨rfl, g_in 46 (by decide +kernel) rfl⟩⟩⟩
set_option maxRecDepth 100000 in
theorem g_j163 : g_gmJ g_m163 10 := ⟨g_in 1232 (by exact rfl) rfl, g_kc10.1, g_kc10.2.1, g_kc10.2.2, Or.inr ⟨by decide, g_in 1231 (by decide +kernel) rfl, ⟨_, _, rfl⟩, Or.inr ⟨rfl, g_in 53 (by decide +kernel) rfl⟩⟩⟩
set_option maxRecDepth 100000 in
theorem g_j164 : g_gmJ g_m164 10 := ⟨g_in 1228 (by exact rfl) rfl, g_kc10.1, g_kc10.2.1, g_kc10.2.2, Or.inr ⟨by decide, g_in 1227 (by decide +kernel) rfl, ⟨_, _, rfl⟩, Or.inr ⟨rfl, g_in 52 (by decide +kernel) rfl⟩⟩⟩
set_option maxRecDepth 100000 in
theorem g_j165 : g_gmJ g_m165 10 := ⟨g_in 1212 (by exact rfl) rfl, g_kc10.1, g_kc10.2.1, g_kc10.2.2, Or.inr ⟨by decide, g_in 1211 (by decide +kernel) rfl, ⟨_, _, rfl⟩, Or.inr ⟨rfl, g_in 49 (by decide +kernel) rfl⟩⟩⟩
set_option maxRecDepth 100000 in
theorem g_j166 : g_gmJ g_m166 10 := ⟨g_in 1208 (by exact rfl) rfl, g_kc10.1, g_kc10.2.1, g_kc10.2.2, Or.inr ⟨by decide, g_in 1207 (by decide +kernel) rfl, ⟨_, _, rfl⟩, Or.inr ⟨rfl, g_in 48 (by decide +kernel) rfl⟩⟩⟩
set_option maxRecDepth 100000 in
theorem g_j167 : g_gmJ g_m167 99 := ⟨g_in 1204 (by exact rfl) rfl, g_kc10.1, g_kc10.2.1, g_kc10.2.2, Or.inl ⟨rfl, g_in 1203 (by decide +kernel) rfl⟩⟩
set_option maxRecDepth 100000 in
theorem g_j168 : g_gmJ g_m168 10 := ⟨g_in 1188 (by exact rfl) rfl, g_kc10.1, g_kc10.2.1, g_kc10.2.2, Or.inr ⟨by decide, g_in 1186 (by decide +kernel) rfl, ⟨_, _, rfl⟩, Or.inr ⟨rfl, g_in 1187 (by decide +kernel) rfl⟩⟩⟩
set_option maxRecDepth 100000 in
theorem g_j169 : g_gmJ g_m169 10 := ⟨g_in 1224 (by exact rfl) rfl, g_kc10.1, g_kc10.2.1, g_kc10.2.2, Or.inr ⟨by decide, g_in 1223 (by decide +kernel) rfl, ⟨_, _, rfl⟩, Or.inr ⟨rfl, g_in 51 (by decide +kernel) rfl⟩⟩⟩
set_option maxRecDepth 100000 in
theorem g_j170 : g_gmJ g_m170 10 := ⟨g_in 1216 (by exact rfl) rfl, g_kc10.1, g_kc10.2.1, g_kc10.2.2, Or.inr ⟨by decide, g_in 1214 (by decide +kernel) rfl, ⟨_, _, rfl⟩, Or.inr ⟨rfl, g_in 1215 (by decide +kernel) rfl⟩⟩⟩
set_option maxRecDepth 100000 in
theorem g_j171 : g_gmJ g_m171 99 := ⟨g_in 1243 (by exact rfl) rfl, g_kc10.1, g_kc10.2.1, g_kc10.2.2, Or.inl ⟨rfl, g_in 1242 (by decide +kernel) rfl⟩⟩
set_option maxRecDepth 100000 in
theorem g_j172 : g_gmJ g_m172 10 := ⟨g_in 1240 (by exact rfl) rfl, g_kc10.1, g_kc10.2.1, g_kc10.2.2, Or.inr ⟨by decide, g_in 1239 (by decide +kernel) rfl, ⟨_, _, rfl⟩, Or.inr ⟨rfl, g_in 54 (by decide +kernel) rfl⟩⟩⟩
set_option maxRecDepth 100000 in
theorem g_j173 : g_gmJ g_m173 10 := ⟨g_in 1236 (by exact rfl) rfl, g_kc10.1, g_kc10.2.1, g_kc10.2.2, Or.inr ⟨by decide, g_in 1234 (by decide +kernel) rfl, ⟨_, _, rfl⟩, Or.inr ⟨rfl, g_in 1235 (by decide +kernel) rfl⟩⟩⟩
set_option maxRecDepth 100000 in
theorem g_j174 : g_gmJ g_m174 10 := ⟨g_in 1247 (by exact rfl) rfl, g_kc10.1, g_kc10.2.1, g_kc10.2.2, Or.inr ⟨by decide, g_in 1245 (by decide +kernel) rfl, ⟨_, _, rfl⟩, Or.inr ⟨rfl, g_in 1246 (by decide +kernel) rfl⟩⟩⟩
set_option maxRecDepth 100000 in
theorem g_j175 : g_gmJ g_m175 10 := ⟨g_in 1251 (by exact rfl) rfl, g_kc10.1, g_kc10.2.1, g_kc10.2.2, Or.inr ⟨by decide, g_in 1249 (by decide +kernel) rfl, ⟨_, _, rfl⟩, Or.inr ⟨rfl, g_in 1250 (by decide +kernel) rfl⟩⟩⟩
set_option maxRecDepth 100000 in
theorem g_j176 : g_gmJ g_m176 10 := ⟨g_in 1259 (by exact rfl) rfl, g_kc10.1, g_kc10.2.1, g_kc10.2.2, Or.inr ⟨by decide, g_in 1258 (by decide +kernel) rfl, ⟨_, _, rfl⟩, Or.inr ⟨rfl, g_in 55 (by decide +kernel) rfl⟩⟩⟩
set_option maxRecDepth 100000 in
theorem g_j177 : g_gmJ g_m177 10 := ⟨g_in 1255 (by exact rfl) rfl, g_kc10.1, g_kc10.2.1, g_kc10.2.2, Or.inr ⟨by decide, g_in 1253 (by decide +kernel) rfl, ⟨_, _, rfl⟩, Or.inr ⟨rfl, g_in 1254 (by decide +kernel) rfl⟩⟩⟩
set_option maxRecDepth 100000 in
theorem g_j178 : g_gmJ g_m178 10 := ⟨g_in 1267 (by exact rfl) rfl, g_kc10.1, g_kc10.2.1, g_kc10.2.2, Or.inr ⟨by decide, g_in 1266 (by decide +kernel) rfl, ⟨_, _, rfl⟩, Or.inr ⟨rfl, g_in 56 (by decide +kernel) rfl⟩⟩⟩
set_option maxRecDepth 100000 in
theorem g_j179 : g_gmJ g_m179 10 := ⟨g_in 1263 (by exact rfl) rfl, g_kc10.1, g_kc10.2.1, g_kc10.2.2, Or.inr ⟨by decide, g_in 1261 (by decide +kernel) rfl, ⟨_, _, rfl⟩, Or.inr ⟨rfl, g_in 1262 (by decide +kernel) rfl⟩⟩⟩
set_option maxRecDepth 100000 in
theorem g_j180 : g_gmJ g_m180 10 := ⟨g_in 1276 (by exact rfl) rfl, g_kc10.1, g_kc10.2.1, g_kc10.2.2, Or.inr ⟨by decide, g_in 1275 (by decide +kernel) rfl, ⟨_, _, rfl⟩, Or.inr ⟨rfl, g_in 57 (by decide +kernel) rfl⟩⟩⟩
set_option maxRecDepth 100000 in
theorem g_j181 : g_gmJ g_m181 10 := ⟨g_in 1272 (by exact rfl) rfl, g_kc10.1, g_kc10.2.1, g_kc10.2.2, Or.inr ⟨by decide, g_in 1270 (by decide +kernel) rfl, ⟨_, _, rfl⟩, Or.inr ⟨rfl, g_in 1271 (by decide +kernel) rfl⟩⟩⟩
set_option maxRecDepth 100000 in
theorem g_j182 : g_gmJ g_m182 10 := ⟨g_in 1280 (by exact rfl) rfl, g_kc10.1, g_kc10.2.1, g_kc10.2.2, Or.inr ⟨by decide, g_in 1278 (by decide +kernel) rfl, ⟨_, _, rfl⟩, Or.inr ⟨rfl, g_in 1279 (by decide +kernel) rfl⟩⟩⟩
set_option maxRecDepth 100000 in
theorem g_j183 : g_gmJ g_m183 10 := ⟨g_in 1284 (by exact rfl) rfl, g_kc10.1, g_kc10.2.1, g_kc10.2.2, Or.inr ⟨by decide, g_in 1282 (by decide +kernel) rfl, ⟨_, _, rfl⟩, Or.inr ⟨rfl, g_in 1283 (by decide +kernel) rfl⟩⟩⟩
set_option maxRecDepth 100000 in
theorem g_j184 : g_gmJ g_m184 10 := ⟨g_in 1288 (by exact rfl) rfl, g_kc10.1, g_kc10.2.1, g_kc10.2.2, Or.inr ⟨by decide, g_in 1286 (by decide +kernel) rfl, ⟨_, _, rfl⟩, Or.inr ⟨rfl, g_in 1287 (by decide +kernel) rfl⟩⟩⟩
set_option maxRecDepth 100000 in
theorem g_j185 : g_gmJ g_m185 10 := ⟨g_in 1293 (by exact rfl) rfl, g_kc10.1, g_kc10.2.1, g_kc10.2.2, Or.inr ⟨by decide, g_in 1291 (by decide +kernel) rfl, ⟨_, _, rfl⟩, Or.inr ⟨rfl, g_in 1292 (by decide +kernel) rfl⟩⟩⟩
set_option maxRecDepth 100000 in
theorem g_j186 : g_gmJ g_m186 10 := ⟨g_in 1297 (by exact rfl) rfl, g_kc10.1, g_kc10.2.1, g_kc10.2.2, Or.inr ⟨by decide, g_in 1295 (by decide +kernel) rfl, ⟨_, _, rfl⟩, Or.inr ⟨rfl, g_in 1296 (by decide +kernel) rfl⟩⟩⟩
set_option maxRecDepth 100000 in
theorem g_j187 : g_gmJ g_m187 10 := ⟨g_in 1309 (by exact rfl) rfl, g_kc10.1, g_kc10.2.1, g_kc10.2.2, Or.inr ⟨by decide, g_in 1308 (by decide +kernel) rfl, ⟨_, _, rfl⟩, Or.inr ⟨rfl, g_in 59 (by decide +kernel) rfl⟩⟩⟩
set_option maxRecDepth 100000 in
theorem g_j188 : g_gmJ g_m188 10 := ⟨g_in 1305 (by exact rfl) rfl, g_kc10.1, g_kc10.2.1, g_kc10.2.2, Or.inr ⟨by decide, g_in 1304 (by decide +kernel) rfl, ⟨_, _, rfl⟩, Or.inr ⟨rfl, g_in 58 (by decide +kernel) rfl⟩⟩⟩
set_option maxRecDepth 100000 in
theorem g_j189 : g_gmJ g_m189 10 := ⟨g_in 1301 (by exact rfl) rfl, g_kc10.1, g_kc10.2.1, g_kc10.2.2, Or.inr ⟨by decide, g_in 1299 (by decide +kernel) rfl, ⟨_, _, rfl⟩, Or.inr ⟨rfl, g_in 1300 (by decide +kernel) rfl⟩⟩⟩
set_option maxRecDepth 100000 in
theorem g_j190 : g_gmJ g_m190 10 := ⟨g_in 1321 (by exact rfl) rfl, g_kc10.1, g_kc10.2.1, g_kc10.2.2, Or.inr ⟨by decide, g_in 1320 (by decide +kernel) rfl, ⟨_, _, rfl⟩, Or.inr ⟨rfl, g_in 61 (by decide +kernel) rfl⟩⟩⟩
set_option maxRecDepth 100000 in
theorem g_j191 : g_gmJ g_m191 10 := ⟨g_in 1317 (by exact rfl) rfl, g_kc10.1, g_kc10.2.1, g_kc10.2.2, Or.inr ⟨by decide, g_in 1316 (by decide +kernel) rfl, ⟨_, _, rfl⟩, Or.inr ⟨rfl, g_in 60 (by decide +kernel) rfl⟩⟩⟩
set_option maxRecDepth 100000 in
theorem g_j192 : g_gmJ g_m192 99 := ⟨g_in 1324 (by exact rfl) rfl, g_kc10.1, g_kc10.2.1, g_kc10.2.2, Or.inl ⟨rfl, g_in 1323 (by decide +kernel) rfl⟩⟩
set_option maxRecDepth 100000 in
theorem g_j193 : g_gmJ g_m193 10 := ⟨g_in 1328 (by exact rfl) rfl, g_kc10.1, g_kc10.2.1, g_kc10.2.2, Or.inr ⟨by decide, g_in 1327 (by decide +kernel) rfl, ⟨_, _, rfl⟩, Or.inr ⟨rfl, g_in 62 (by decide +kernel) rfl⟩⟩⟩
set_option maxRecDepth 100000 in
theorem g_j194 : g_gmJ g_m194 10 := ⟨g_in 1313 (by exact rfl) rfl, g_kc10.1, g_kc10.2.1, g_kc10.2.2, Or.inr ⟨by decide, g_in 1311 (by decide +kernel) rfl, ⟨_, _, rfl⟩, Or.inr ⟨rfl, g_in 1312 (by decide +kernel) rfl⟩⟩⟩
set_option maxRecDepth 100000 in
theorem g_j195 : g_gmJ g_m195 10 := ⟨g_in 1332 (by exact rfl) rfl, g_kc10.1, g_kc10.2.1, g_kc10.2.2, Or.inr ⟨by decide, g_in 1330 (by decide +kernel) rfl, ⟨_, _, rfl⟩, Or.inr ⟨rfl, g_in 1331 (by decide +kernel) rfl⟩⟩⟩
set_option maxRecDepth 100000 in
theorem g_j196 : g_gmJ g_m196 10 := ⟨g_in 1346 (by exact rfl) rfl, g_kc10.1, g_kc10.2.1, g_kc10.2.2, Or.inr ⟨by decide, g_in 1345 (by decide +kernel) rfl, ⟨_, _, rfl⟩, Or.inr ⟨rfl, g_in 64 (by decide +kernel) rfl⟩⟩⟩
set_option maxRecDepth 100000 in
theorem g_j197 : g_gmJ g_m197 10 := ⟨g_in 1350 (by exact rfl) rfl, g_kc10.1, g_kc10.2.1, g_kc10.2.2, Or.inr ⟨by decide, g_in 1349 (by decide +kernel) rfl, ⟨_, _, rfl⟩, Or.inr ⟨rfl, g_in 65 (by decide +kernel) rfl⟩⟩⟩
set_option maxRecDepth 100000 in
theorem g_j198 : g_gmJ g_m198 10 := ⟨g_in 1342 (by exact rfl) rfl, g_kc10.1, g_kc10.2.1, g_kc10.2.2, Or.inr ⟨by decide, g_in 1341 (by decide +kernel) rfl, ⟨_, _, rfl⟩, Or.inr ⟨rfl, g_in 63 (by decide +kernel) rfl⟩⟩⟩
set_option maxRecDepth 100000 in
theorem g_j199 : g_gmJ g_m199 10 := ⟨g_in 1336 (by exact rfl) rfl, g_kc10.1, g_kc10.2.1, g_kc10.2.2, Or.inr ⟨by decide, g_in 1334 (by decide +kernel) rfl, ⟨_, _, rfl⟩, Or.inr ⟨rfl, g_in 1335 (by decide +kernel) rfl⟩⟩⟩
set_option maxRecDepth 100000 in
theorem g_j200 : g_gmJ g_m200 10 := ⟨g_in 1358 (by exact rfl) rfl, g_kc10.1, g_kc10.2.1, g_kc10.2.2, Or.inr ⟨by decide, g_in 1357 (by decide +kernel) rfl, ⟨_, _, rfl⟩, Or.inr ⟨rfl, g_in 66 (by decide +kernel) rfl⟩⟩⟩
set_option maxRecDepth 100000 in
theorem g_j201 : g_gmJ g_m201 10 := ⟨g_in 1354 (by exact rfl) rfl, g_kc10.1, g_kc10.2.1, g_kc10.2.2, Or.inr ⟨by decide, g_in 1352 (by decide +kernel) rfl, ⟨_, _, rfl⟩, Or.inr ⟨rfl, g_in 1353 (by decide +kernel) rfl⟩⟩⟩
set_option maxRecDepth 100000 in
theorem g_j202 : g_gmJ g_m202 10 := ⟨g_in 1362 (by exact rfl) rfl, g_kc10.1, g_kc10.2.1, g_kc10.2.2, Or.inr ⟨by decide, g_in 1360 (by decide +kernel) rfl, ⟨_, _, rfl⟩, Or.inr ⟨rfl, g_in 1361 (by decide +kernel) rfl⟩⟩⟩
set_option maxRecDepth 100000 in
theorem g_j203 : g_gmJ g_m203 10 := ⟨g_in 1366 (by exact rfl) rfl, g_kc10.1, g_kc10.2.1, g_kc10.2.2, Or.inr ⟨by decide, g_in 1364 (by decide +kernel) rfl, ⟨_, _, rfl⟩, Or.inr ⟨rfl, g_in 1365 (by decide +kernel) rfl⟩⟩⟩
set_option maxRecDepth 100000 in
theorem g_j204 : g_gmJ g_m204 10 := ⟨g_in 1370 (by exact rfl) rfl, g_kc10.1, g_kc10.2.1, g_kc10.2.2, Or.inr ⟨by decide, g_in 1368 (by decide +kernel) rfl, ⟨_, _, rfl⟩, Or.inr ⟨rfl, g_in 1369 (by decide +kernel) rfl⟩⟩⟩
set_option maxRecDepth 100000 in
theorem g_j205 : g_gmJ g_m205 99 := ⟨g_in 1381 (by exact rfl) rfl, g_kc10.1, g_kc10.2.1, g_kc10.2.2, Or.inl ⟨rfl, g_in 1380 (by decide +kernel) rfl⟩⟩
set_option maxRecDepth 100000 in
theorem g_j206 : g_gmJ g_m206 10 := ⟨g_in 1378 (by exact rfl) rfl, g_kc10.1, g_kc10.2.1, g_kc10.2.2, Or.inr ⟨by decide, g_in 1377 (by decide +kernel) rfl, ⟨_, _, rfl⟩, Or.inr ⟨rfl, g_in 67 (by decide +kernel) rfl⟩⟩⟩
set_option maxRecDepth 100000 in
theorem g_j207 : g_gmJ g_m207 10 := ⟨g_in 1374 (by exact rfl) rfl, g_kc10.1, g_kc10.2.1, g_kc10.2.2, Or.inr ⟨by decide, g_in 1372 (by decide +kernel) rfl, ⟨_, _, rfl⟩, Or.inr ⟨rfl, g_in 1373 (by decide +kernel) rfl⟩⟩⟩
set_option maxRecDepth 100000 in
theorem g_j208 : g_gmJ g_m208 10 := ⟨g_in 1386 (by exact rfl) rfl, g_kc10.1, g_kc10.2.1, g_kc10.2.2, Or.inr ⟨by decide, g_in 1384 (by decide +kernel) rfl, ⟨_, _, rfl⟩, Or.inr ⟨rfl, g_in 1385 (by decide +kernel) rfl⟩⟩⟩
set_option maxRecDepth 100000 in
theorem g_j209 : g_gmJ g_m209 10 := ⟨g_in 1390 (by exact rfl) rfl, g_kc10.1, g_kc10.2.1, g_kc10.2.2, Or.inr ⟨by decide, g_in 1388 (by decide +kernel) rfl, ⟨_, _, rfl⟩, Or.inr ⟨rfl, g_in 1389 (by decide +kernel) rfl⟩⟩⟩
set_option maxRecDepth 100000 in
theorem g_j210 : g_gmJ g_m210 10 := ⟨g_in 1394 (by exact rfl) rfl, g_kc10.1, g_kc10.2.1, g_kc10.2.2, Or.inr ⟨by decide, g_in 1392 (by decide +kernel) rfl, ⟨_, _, rfl⟩, Or.inr ⟨rfl, g_in 1393 (by decide +kernel) rfl⟩⟩⟩
set_option maxRecDepth 100000 in
theorem g_j211 : g_gmJ g_m211 10 := ⟨g_in 1406 (by exact rfl) rfl, g_kc10.1, g_kc10.2.1, g_kc10.2.2, Or.inr ⟨by decide, g_in 1405 (by decide +kernel) rfl, ⟨_, _, rfl⟩, Or.inr ⟨rfl, g_in 69 (by decide +kernel) rfl⟩⟩⟩
set_option maxRecDepth 100000 in
theorem g_j212 : g_gmJ g_m212 10 := ⟨g_in 1402 (by exact rfl) rfl, g_kc10.1, g_kc10.2.1, g_kc10.2.2, Or.inr ⟨by decide, g_in 1401 (by decide +kernel) rfl, ⟨_, _, rfl⟩, Or.inr ⟨rfl, g_in 68 (by decide +kernel) rfl⟩⟩⟩
set_option maxRecDepth 100000 in
theorem g_j213 : g_gmJ g_m213 10 := ⟨g_in 1398 (by exact rfl) rfl, g_kc10.1, g_kc10.2.1, g_kc10.2.2, Or.inr ⟨by decide, g_in 1396 (by decide +kernel) rfl, ⟨_, _, rfl⟩, Or.inr ⟨rfl, g_in 1397 (by decide +kernel) rfl⟩⟩⟩
set_option maxRecDepth 100000 in
theorem g_j214 : g_gmJ g_m214 10 := ⟨g_in 1410 (by exact rfl) rfl, g_kc10.1, g_kc10.2.1, g_kc10.2.2, Or.inr ⟨by decide, g_in 1408 (by decide +kernel) rfl, ⟨_, _, rfl⟩, Or.inr ⟨rfl, g_in 1409 (by decide +kernel) rfl⟩⟩⟩
set_option maxRecDepth 100000 in
theorem g_j215 : g_gmJ g_m215 10 := ⟨g_in 1414 (by exact rfl) rfl, g_kc10.1, g_kc10.2.1, g_kc10.2.2, Or.inr ⟨by decide, g_in 1412 (by decide +kernel) rfl, ⟨_, _, rfl⟩, Or.inr ⟨rfl, g_in 1413 (by decide +kernel) rfl⟩⟩⟩
set_option maxRecDepth 100000 in
theorem g_j216 : g_gmJ g_m216 10 := ⟨g_in 1423 (by exact rfl) rfl, g_kc10.1, g_kc10.2.1, g_kc10.2.2, Or.inr ⟨by decide, g_in 1422 (by decide +kernel) rfl, ⟨_, _, rfl⟩, Or.inr ⟨rfl, g_in 70 (by decide +kernel) rfl⟩⟩⟩
set_option maxRecDepth 100000 in
theorem g_j217 : g_gmJ g_m217 10 := ⟨g_in 1418 (by exact rfl) rfl, g_kc10.1, g_kc10.2.1, g_kc10.2.2, Or.inr ⟨by decide, g_in 1416 (by decide +kernel) rfl, ⟨_, _, rfl⟩, Or.inr ⟨rfl, g_in 1417 (by decide +kernel) rfl⟩⟩⟩
set_option maxRecDepth 100000 in
theorem g_j218 : g_gmJ g_m218 10 := ⟨g_in 1428 (by exact rfl) rfl, g_kc10.1, g_kc10.2.1, g_kc10.2.2, Or.inr ⟨by decide, g_in 1426 (by decide +kernel) rfl, ⟨_, _, rfl⟩, Or.inr ⟨rfl, g_in 1427 (by decide +kernel) rfl⟩⟩⟩
set_option maxRecDepth 100000 in
theorem g_j219 : g_gmJ g_m219 10 := ⟨g_in 1432 (by exact rfl) rfl, g_kc10.1, g_kc10.2.1, g_kc10.2.2, Or.inr ⟨by decide, g_in 1430 (by decide +kernel) rfl, ⟨_, _, rfl⟩, Or.inr ⟨rfl, g_in 1431 (by decide +kernel) rfl⟩⟩⟩
set_option maxRecDepth 100000 in
theorem g_j220 : g_gmJ g_m220 10 := ⟨g_in 1436 (by exact rfl) rfl, g_kc10.1, g_kc10.2.1, g_kc10.2.2, Or.inr ⟨by decide, g_in 1434 (by decide +kernel) rfl, ⟨_, _, rfl⟩, Or.inr ⟨rfl, g_in 1435 (by decide +kernel) rfl⟩⟩⟩
set_option maxRecDepth 100000 in
theorem g_j221 : g_gmJ g_m221 10 := ⟨g_in 1441 (by exact rfl) rfl, g_kc10.1, g_kc10.2.1, g_kc10.2.2, Or.inr ⟨by decide, g_in 1439 (by decide +kernel) rfl, ⟨_, _, rfl⟩, Or.inr ⟨rfl, g_in 1440 (by decide +kernel) rfl⟩⟩⟩
set_option maxRecDepth 100000 in
theorem g_j222 : g_gmJ g_m222 10 := ⟨g_in 1445 (by exact rfl) rfl, g_kc10.1, g_kc10.2.1, g_kc10.2.2, Or.inr ⟨by decide, g_in 1443 (by decide +kernel) rfl, ⟨_, _, rfl⟩, Or.inr ⟨rfl, g_in 1444 (by decide +kernel) rfl⟩⟩⟩
set_option maxRecDepth 100000 in
theorem g_j223 : g_gmJ g_m223 10 := ⟨g_in 1450 (by exact rfl) rfl, g_kc10.1, g_kc10.2.1, g_kc10.2.2, Or.inr ⟨by decide, g_in 1448 (by decide +kernel) rfl, ⟨_, _, rfl⟩, Or.inr ⟨rfl, g_in 1449 (by decide +kernel) rfl⟩⟩⟩
set_option maxRecDepth 100000 in
theorem g_j224 : g_gmJ g_m224 10 := ⟨g_in 1454 (by exact rfl) rfl, g_kc10.1, g_kc10.2.1, g_kc10.2.2, Or.inr ⟨by decide, g_in 1452 (by decide +kernel) rfl, ⟨_, _, rfl⟩, Or.inr ⟨rfl, g_in 1453 (by decide +kernel) rfl⟩⟩⟩
set_option maxRecDepth 100000 in
theorem g_j226 : g_gmJ g_m226 99 := ⟨g_in 761 (by exact rfl) rfl, g_kc12.1, g_kc12.2.1, g_kc12.2.2, Or.inl ⟨rfl, g_in 760 (by decide +kernel) rfl⟩⟩
theorem g_c0_0 : g_gmE 0 (3, 0, 0, 0, false) := Or.inl ⟨rfl, Or.inl ⟨rfl, g_in 103 (by decide +kernel) rfl⟩⟩
theorem g_c0_1 : g_gmE 0 (20, 44, 0, 4, true) := Or.inr ⟨by decide, g_j44, by decide +kernel, Or.inr ⟨rfl, "KinGates", List.mem_of_getElem? (i := 0) rfl⟩⟩
theorem g_c0_2 : g_gmE 0 (53, 0, 5, 98, false) := Or.inl ⟨rfl, Or.inr (Or.inr (Or.inr (Or.inl ⟨rfl, g_in 567 (by decide +kernel) rfl, g_in 569 (by decide +kernel) rfl, g_in 568 (by decide +kernel) rfl, g_in 87 (by decide +kernel) rfl⟩)))⟩
theorem g_c0_3 : g_gmE 0 (59, 50, 1, 4, false) := Or.inr ⟨by decide, g_j50, by decide +kernel, Or.inl ⟨rfl, g_in 570 (by decide +kernel) rfl⟩⟩
theorem g_c0_4 : g_gmE 0 (63, 4, 1, 0, false) := Or.inr ⟨by decide, g_j4, by decide +kernel, Or.inl ⟨rfl, g_in 555 (by decide +kernel) rfl⟩⟩
theorem g_c0_5 : g_gmE 0 (67, 5, 1, 0, false) := Or.inr ⟨by decide, g_j5, by decide +kernel, Or.inl ⟨rfl, g_in 559 (by decide +kernel) rfl⟩⟩
set_option maxRecDepth 100000 in
theorem g_c0_6 : g_gmE 0 (70, 0, 2, 97, false) := Or.inl ⟨rfl, Or.inr (Or.inr (Or.inr (Or.inr (Or.inl ⟨rfl, g_in 746 (by decide +kernel) rfl, g_in 747 (by decide +kernel) rfl, g_in 88 (by decide +kernel) rfl, g_in 748 (by exact rfl) rfl⟩))))⟩
theorem g_c0_7 : g_gmE 0 (76, 15, 1, 0, false) := Or.inr ⟨by decide, g_j15, by decide +kernel, Or.inl ⟨rfl, g_in 670 (by decide +kernel) rfl⟩⟩
theorem g_c0_8 : g_gmE 0 (80, 124, 2, 99, true) := Or.inr ⟨by decide, g_j124, by decide +kernel, Or.inr ⟨rfl, "KinGates", List.mem_of_getElem? (i := 1) rfl⟩⟩
theorem g_c0_9 : g_gmE 0 (84, 49, 1, 4, false) := Or.inr ⟨by decide, g_j49, by decide +kernel, Or.inl ⟨rfl, g_in 551 (by decide +kernel) rfl⟩⟩
theorem g_c0 : ∀ q ∈ g_cl 0, g_gmE 0 q := List.forall_mem_cons.mpr ⟨g_c0_0, List.forall_mem_cons.mpr ⟨g_c0_1, List.forall_mem_cons.mpr ⟨g_c0_2, List.forall_mem_cons.mpr ⟨g_c0_3, List.forall_mem_cons.mpr ⟨g_c0_4, List.forall_mem_cons.mpr ⟨g_c0_5, List.forall_mem_cons.mpr ⟨g_c0_6, List.forall_mem_cons.mpr ⟨g_c0_7, List.forall_mem_cons.mpr ⟨g_c0_8, List.forall_mem_cons.mpr ⟨g_c0_9, fun _ h => absurd h List.not_mem_nil⟩⟩⟩⟩⟩⟩⟩⟩⟩⟩
theorem g_c1_0 : g_gmE 1 (3, 0, 0, 0, false) := Or.inl ⟨rfl, Or.inl ⟨rfl, g_in 275 (by decide +kernel) rfl⟩⟩
theorem g_c1_1 : g_gmE 1 (27, 29, 2, 2, false) := Or.inr ⟨by decide, g_j29, by decide +kernel, Or.inl ⟨rfl, g_in 728 (by decide +kernel) rfl⟩⟩
theorem g_c1_2 : g_gmE 1 (39, 124, 2, 99, true) := Or.inr ⟨by decide, g_j124, by decide +kernel, Or.inr ⟨rfl, "KinGates", List.mem_of_getElem? (i := 2) rfl⟩⟩
theorem g_c1_3 : g_gmE 1 (43, 19, 1, 1, false) := Or.inr ⟨by decide, g_j19, by decide +kernel, Or.inl ⟨rfl, g_in 757 (by decide +kernel) rfl⟩⟩
theorem g_c1_4 : g_gmE 1 (53, 20, 2, 1, false) := Or.inr ⟨by decide, g_j20, by decide +kernel, Or.inl ⟨rfl, g_in 758 (by decide +kernel) rfl⟩⟩
theorem g_c1 : ∀ q ∈ g_cl 1, g_gmE 1 q := List.forall_mem_cons.mpr ⟨g_c1_0, List.forall_mem_cons.mpr ⟨g_c1_1, List.forall_mem_cons.mpr ⟨g_c1_2, List.forall_mem_cons.mpr ⟨g_c1_3, List.forall_mem_cons.mpr ⟨g_c1_4, fun _ h => absurd h List.not_mem_nil⟩⟩⟩⟩⟩
theorem g_c2_0 : g_gmE 2 (3, 0, 0, 0, false) := Or.inl ⟨rfl, Or.inl ⟨rfl, g_in 259 (by decide +kernel) rfl⟩⟩
theorem g_c2_1 : g_gmE 2 (25, 24, 1, 2, false) := Or.inr ⟨by decide, g_j24, by decide +kernel, Or.inl ⟨rfl, g_in 604 (by decide +kernel) rfl⟩⟩
theorem g_c2_2 : g_gmE 2 (29, 26, 0, 2, false) := Or.inr ⟨by decide, g_j26, by decide +kernel, Or.inl ⟨rfl, g_in 614 (by decide +kernel) rfl⟩⟩
theorem g_c2_3 : g_gmE 2 (35, 4, 1, 0, false) := Or.inr ⟨by decide, g_j4, by decide +kernel, Or.inl ⟨rfl, g_in 608 (by decide +kernel) rfl⟩⟩
theorem g_c2_4 : g_gmE 2 (42, 125, 1, 99, true) := Or.inr ⟨by decide, g_j125, by decide +kernel, Or.inr ⟨rfl, "KinGates", List.mem_of_getElem? (i := 3) rfl⟩⟩
theorem g_c2_5 : g_gmE 2 (46, 25, 3, 2, false) := Or.inr ⟨by decide, g_j25, by decide +kernel, Or.inl ⟨rfl, g_in 610 (by decide +kernel) rfl⟩⟩
theorem g_c2_6 : g_gmE 2 (68, 30, 2, 2, false) := Or.inr ⟨by decide, g_j30, by decide +kernel, Or.inl ⟨rfl, g_in 622 (by decide +kernel) rfl⟩⟩
theorem g_c2 : ∀ q ∈ g_cl 2, g_gmE 2 q := List.forall_mem_cons.mpr ⟨g_c2_0, List.forall_mem_cons.mpr ⟨g_c2_1, List.forall_mem_cons.mpr ⟨g_c2_2, List.forall_mem_cons.mpr ⟨g_c2_3, List.forall_mem_cons.mpr ⟨g_c2_4, List.forall_mem_cons.mpr ⟨g_c2_5, List.forall_mem_cons.mpr ⟨g_c2_6, fun _ h => absurd h List.not_mem_nil⟩⟩⟩⟩⟩⟩⟩
theorem g_c3_0 : g_gmE 3 (3, 0, 0, 0, false) := Or.inl ⟨rfl, Or.inl ⟨rfl, g_in 293 (by decide +kernel) rfl⟩⟩
theorem g_c3_1 : g_gmE 3 (34, 29, 2, 2, false) := Or.inr ⟨by decide, g_j29, by decide +kernel, Or.inl ⟨rfl, g_in 786 (by decide +kernel) rfl⟩⟩
theorem g_c3_2 : g_gmE 3 (43, 34, 0, 3, false) := Or.inr ⟨by decide, g_j34, by decide +kernel, Or.inl ⟨rfl, g_in 791 (by decide +kernel) rfl⟩⟩
theorem g_c3_3 : g_gmE 3 (47, 124, 2, 99, true) := Or.inr ⟨by decide, g_j124, by decide +kernel, Or.inr ⟨rfl, "KinGates", List.mem_of_getElem? (i := 4) rfl⟩⟩
theorem g_c3_4 : g_gmE 3 (51, 35, 2, 3, false) := Or.inr ⟨by decide, g_j35, by decide +kernel, Or.inl ⟨rfl, g_in 796 (by decide +kernel) rfl⟩⟩
theorem g_c3_5 : g_gmE 3 (55, 36, 0, 3, false) := Or.inr ⟨by decide, g_j36, by decide +kernel, Or.inl ⟨rfl, g_in 812 (by decide +kernel) rfl⟩⟩
theorem g_c3_6 : g_gmE 3 (58, 39, 2, 3, false) := Or.inr ⟨by decide, g_j39, by decide +kernel, Or.inl ⟨rfl, g_in 813 (by decide +kernel) rfl⟩⟩
theorem g_c3_7 : g_gmE 3 (61, 41, 2, 3, false) := Or.inr ⟨by decide, g_j41, by decide +kernel, Or.inl ⟨rfl, g_in 825 (by decide +kernel) rfl⟩⟩
set_option maxRecDepth 100000 in
theorem g_c3_8 : g_gmE 3 (64, 0, 2, 97, false) := Or.inl ⟨rfl, Or.inr (Or.inr (Or.inr (Or.inr (Or.inl ⟨rfl, g_in 829 (by decide +kernel) rfl, g_in 747 (by decide +kernel) rfl, g_in 88 (by decide +kernel) rfl, g_in 748 (by exact rfl) rfl⟩))))⟩
theorem g_c3_9 : g_gmE 3 (69, 43, 2, 3, false) := Or.inr ⟨by decide, g_j43, by decide +kernel, Or.inl ⟨rfl, g_in 834 (by decide +kernel) rfl⟩⟩
theorem g_c3 : ∀ q ∈ g_cl 3, g_gmE 3 q := List.forall_mem_cons.mpr ⟨g_c3_0, List.forall_mem_cons.mpr ⟨g_c3_1, List.forall_mem_cons.mpr ⟨g_c3_2, List.forall_mem_cons.mpr ⟨g_c3_3, List.forall_mem_cons.mpr ⟨g_c3_4, List.forall_mem_cons.mpr ⟨g_c3_5, List.forall_mem_cons.mpr ⟨g_c3_6, List.forall_mem_cons.mpr ⟨g_c3_7, List.forall_mem_cons.mpr ⟨g_c3_8, List.forall_mem_cons.mpr ⟨g_c3_9, fun _ h => absurd h List.not_mem_nil⟩⟩⟩⟩⟩⟩⟩⟩⟩⟩
theorem g_c4_0 : g_gmE 4 (3, 0, 0, 0, false) := Or.inl ⟨rfl, Or.inl ⟨rfl, g_in 109 (by decide +kernel) rfl⟩⟩
theorem g_c4_1 : g_gmE 4 (22, 46, 0, 4, false) := Or.inr ⟨by decide, g_j46, by decide +kernel, Or.inl ⟨rfl, g_in 518 (by decide +kernel) rfl⟩⟩
theorem g_c4_2 : g_gmE 4 (26, 45, 1, 4, false) := Or.inr ⟨by decide, g_j45, by decide +kernel, Or.inl ⟨rfl, g_in 702 (by decide +kernel) rfl⟩⟩
theorem g_c4_3 : g_gmE 4 (30, 0, 5, 98, false) := Or.inl ⟨rfl, Or.inr (Or.inr (Or.inr (Or.inl ⟨rfl, g_in 574 (by decide +kernel) rfl, g_in 569 (by decide +kernel) rfl, g_in 568 (by decide +kernel) rfl, g_in 87 (by decide +kernel) rfl⟩)))⟩
theorem g_c4 : ∀ q ∈ g_cl 4, g_gmE 4 q := List.forall_mem_cons.mpr ⟨g_c4_0, List.forall_mem_cons.mpr ⟨g_c4_1, List.forall_mem_cons.mpr ⟨g_c4_2, List.forall_mem_cons.mpr ⟨g_c4_3, fun _ h => absurd h List.not_mem_nil⟩⟩⟩⟩
theorem g_c5_0 : g_gmE 5 (3, 0, 0, 0, false) := Or.inl ⟨rfl, Or.inl ⟨rfl, g_in 196 (by decide +kernel) rfl⟩⟩
theorem g_c5_1 : g_gmE 5 (11, 72, 0, 7, true) := Or.inr ⟨by decide, g_j72, by decide +kernel, Or.inr ⟨rfl, "KinGates", List.mem_of_getElem? (i := 5) rfl⟩⟩
theorem g_c5_2 : g_gmE 5 (20, 1, 0, 0, true) := Or.inr ⟨by decide, g_j1, by decide +kernel, Or.inr ⟨rfl, "KinGates", List.mem_of_getElem? (i := 6) rfl⟩⟩
theorem g_c5_3 : g_gmE 5 (25, 2, 0, 0, false) := Or.inr ⟨by decide, g_j2, by decide +kernel, Or.inl ⟨rfl, g_in 406 (by decide +kernel) rfl⟩⟩
theorem g_c5_4 : g_gmE 5 (39, 74, 0, 7, false) := Or.inr ⟨by decide, g_j74, by decide +kernel, Or.inl ⟨rfl, g_in 410 (by decide +kernel) rfl⟩⟩
theorem g_c5_5 : g_gmE 5 (42, 54, 0, 5, false) := Or.inr ⟨by decide, g_j54, by decide +kernel, Or.inl ⟨rfl, g_in 414 (by decide +kernel) rfl⟩⟩
theorem g_c5_6 : g_gmE 5 (48, 56, 0, 5, false) := Or.inr ⟨by decide, g_j56, by decide +kernel, Or.inl ⟨rfl, g_in 426 (by decide +kernel) rfl⟩⟩
theorem g_c5_7 : g_gmE 5 (51, 16, 0, 0, false) := Or.inr ⟨by decide, g_j16, by decide +kernel, Or.inl ⟨rfl, g_in 547 (by decide +kernel) rfl⟩⟩
theorem g_c5_8 : g_gmE 5 (58, 53, 2, 5, false) := Or.inr ⟨by decide, g_j53, by decide +kernel, Or.inl ⟨rfl, g_in 422 (by decide +kernel) rfl⟩⟩
theorem g_c5_9 : g_gmE 5 (65, 75, 0, 7, false) := Or.inr ⟨by decide, g_j75, by decide +kernel, Or.inl ⟨rfl, g_in 418 (by decide +kernel) rfl⟩⟩
theorem g_c5_10 : g_gmE 5 (71, 76, 0, 7, false) := Or.inr ⟨by decide, g_j76, by decide +kernel, Or.inl ⟨rfl, g_in 430 (by decide +kernel) rfl⟩⟩
theorem g_c5_11 : g_gmE 5 (79, 60, 1, 5, false) := Or.inr ⟨by decide, g_j60, by decide +kernel, Or.inl ⟨rfl, g_in 494 (by decide +kernel) rfl⟩⟩
theorem g_c5_12 : g_gmE 5 (86, 61, 0, 5, false) := Or.inr ⟨by decide, g_j61, by decide +kernel, Or.inl ⟨rfl, g_in 519 (by decide +kernel) rfl⟩⟩
theorem g_c5_13 : g_gmE 5 (89, 62, 0, 5, false) := Or.inr ⟨by decide, g_j62, by decide +kernel, Or.inl ⟨rfl, g_in 527 (by decide +kernel) rfl⟩⟩
theorem g_c5_14 : g_gmE 5 (92, 59, 1, 5, false) := Or.inr ⟨by decide, g_j59, by decide +kernel, Or.inl ⟨rfl, g_in 539 (by decide +kernel) rfl⟩⟩
theorem g_c5_15 : g_gmE 5 (102, 57, 1, 5, false) := Or.inr ⟨by decide, g_j57, by decide +kernel, Or.inl ⟨rfl, g_in 502 (by decide +kernel) rfl⟩⟩
theorem g_c5_16 : g_gmE 5 (106, 55, 0, 5, false) := Or.inr ⟨by decide, g_j55, by decide +kernel, Or.inl ⟨rfl, g_in 510 (by decide +kernel) rfl⟩⟩
theorem g_c5_17 : g_gmE 5 (109, 58, 1, 5, false) := Or.inr ⟨by decide, g_j58, by decide +kernel, Or.inl ⟨rfl, g_in 506 (by decide +kernel) rfl⟩⟩
theorem g_c5_18 : g_gmE 5 (113, 7, 2, 0, false) := Or.inr ⟨by decide, g_j7, by decide +kernel, Or.inl ⟨rfl, g_in 543 (by decide +kernel) rfl⟩⟩
theorem g_c5_19 : g_gmE 5 (116, 46, 0, 4, false) := Or.inr ⟨by decide, g_j46, by decide +kernel, Or.inl ⟨rfl, g_in 498 (by decide +kernel) rfl⟩⟩
theorem g_c5_20 : g_gmE 5 (121, 47, 2, 4, false) := Or.inr ⟨by decide, g_j47, by decide +kernel, Or.inl ⟨rfl, g_in 514 (by decide +kernel) rfl⟩⟩
theorem g_c5_21 : g_gmE 5 (128, 8, 2, 0, false) := Or.inr ⟨by decide, g_j8, by decide +kernel, Or.inl ⟨rfl, g_in 523 (by decide +kernel) rfl⟩⟩
theorem g_c5_22 : g_gmE 5 (131, 63, 0, 5, false) := Or.inr ⟨by decide, g_j63, by decide +kernel, Or.inl ⟨rfl, g_in 531 (by decide +kernel) rfl⟩⟩
theorem g_c5_23 : g_gmE 5 (137, 9, 1, 0, false) := Or.inr ⟨by decide, g_j9, by decide +kernel, Or.inl ⟨rfl, g_in 535 (by decide +kernel) rfl⟩⟩
theorem g_c5 : ∀ q ∈ g_cl 5, g_gmE 5 q := List.forall_mem_cons.mpr ⟨g_c5_0, List.forall_mem_cons.mpr ⟨g_c5_1, List.forall_mem_cons.mpr ⟨g_c5_2, List.forall_mem_cons.mpr ⟨g_c5_3, List.forall_mem_cons.mpr ⟨g_c5_4, List.forall_mem_cons.mpr ⟨g_c5_5, List.forall_mem_cons.mpr ⟨g_c5_6, List.forall_mem_cons.mpr ⟨g_c5_7, List.forall_mem_cons.mpr ⟨g_c5_8, List.forall_mem_cons.mpr ⟨g_c5_9, List.forall_mem_cons.mpr ⟨g_c5_10, List.forall_mem_cons.mpr ⟨g_c5_11, List.forall_mem_cons.mpr ⟨g_c5_12, List.forall_mem_cons.mpr ⟨g_c5_13, List.forall_mem_cons.mpr ⟨g_c5_14, List.forall_mem_cons.mpr ⟨g_c5_15, List.forall_mem_cons.mpr ⟨g_c5_16, List.forall_mem_cons.mpr ⟨g_c5_17, List.forall_mem_cons.mpr ⟨g_c5_18, List.forall_mem_cons.mpr ⟨g_c5_19, List.forall_mem_cons.mpr ⟨g_c5_20, List.forall_mem_cons.mpr ⟨g_c5_21, List.forall_mem_cons.mpr ⟨g_c5_22, List.forall_mem_cons.mpr ⟨g_c5_23, fun _ h => absurd h List.not_mem_nil⟩⟩⟩⟩⟩⟩⟩⟩⟩⟩⟩⟩⟩⟩⟩⟩⟩⟩⟩⟩⟩⟩⟩⟩
theorem g_c6_0 : g_gmE 6 (3, 0, 0, 0, false) := Or.inl ⟨rfl, Or.inl ⟨rfl, g_in 333 (by decide +kernel) rfl⟩⟩
theorem g_c6_1 : g_gmE 6 (21, 68, 3, 6, false) := Or.inr ⟨by decide, g_j68, by decide +kernel, Or.inl ⟨rfl, g_in 973 (by decide +kernel) rfl⟩⟩
theorem g_c6 : ∀ q ∈ g_cl 6, g_gmE 6 q := List.forall_mem_cons.mpr ⟨g_c6_0, List.forall_mem_cons.mpr ⟨g_c6_1, fun _ h => absurd h List.not_mem_nil⟩⟩
theorem g_c7_0 : g_gmE 7 (3, 0, 0, 0, false) := Or.inl ⟨rfl, Or.inl ⟨rfl, g_in 202 (by decide +kernel) rfl⟩⟩
theorem g_c7_1 : g_gmE 7 (33, 77, 1, 7, false) := Or.inr ⟨by decide, g_j77, by decide +kernel, Or.inl ⟨rfl, g_in 435 (by decide +kernel) rfl⟩⟩
theorem g_c7_2 : g_gmE 7 (51, 0, 0, 95, false) := Or.inl ⟨rfl, Or.inr (Or.inl ⟨rfl, rfl, g_in 439 (by decide +kernel) rfl⟩)⟩
theorem g_c7_3 : g_gmE 7 (56, 0, 1, 94, false) := Or.inl ⟨rfl, Or.inr (Or.inr (Or.inl ⟨rfl, rfl, g_in 449 (by decide +kernel) rfl⟩))⟩
theorem g_c7 : ∀ q ∈ g_cl 7, g_gmE 7 q := List.forall_mem_cons.mpr ⟨g_c7_0, List.forall_mem_cons.mpr ⟨g_c7_1, List.forall_mem_cons.mpr ⟨g_c7_2, List.forall_mem_cons.mpr ⟨g_c7_3, fun _ h => absurd h List.not_mem_nil⟩⟩⟩⟩
theorem g_c8_0 : g_gmE 8 (3, 0, 0, 0, false) := Or.inl ⟨rfl, Or.inl ⟨rfl, g_in 316 (by decide +kernel) rfl⟩⟩
theorem g_c8_1 : g_gmE 8 (23, 124, 2, 99, true) := Or.inr ⟨by decide, g_j124, by decide +kernel, Or.inr ⟨rfl, "KinGates", List.mem_of_getElem? (i := 7) rfl⟩⟩
theorem g_c8 : ∀ q ∈ g_cl 8, g_gmE 8 q := List.forall_mem_cons.mpr ⟨g_c8_0, List.forall_mem_cons.mpr ⟨g_c8_1, fun _ h => absurd h List.not_mem_nil⟩⟩
theorem g_c9_0 : g_gmE 9 (3, 0, 0, 0, false) := Or.inl ⟨rfl, Or.inl ⟨rfl, g_in 95 (by decide +kernel) rfl⟩⟩
theorem g_c9_1 : g_gmE 9 (11, 1, 0, 0, true) := Or.inr ⟨by decide, g_j1, by decide +kernel, Or.inr ⟨rfl, "KinGates", List.mem_of_getElem? (i := 8) rfl⟩⟩
theorem g_c9_2 : g_gmE 9 (31, 51, 0, 5, true) := Or.inr ⟨by decide, g_j51, by decide +kernel, Or.inr ⟨rfl, "KinGates", List.mem_of_getElem? (i := 9) rfl⟩⟩
theorem g_c9_3 : g_gmE 9 (38, 22, 0, 2, true) := Or.inr ⟨by decide, g_j22, by decide +kernel, Or.inr ⟨rfl, "KinGates", List.mem_of_getElem? (i := 10) rfl⟩⟩
theorem g_c9_4 : g_gmE 9 (45, 17, 0, 1, true) := Or.inr ⟨by decide, g_j17, by decide +kernel, Or.inr ⟨rfl, "KinGates", List.mem_of_getElem? (i := 11) rfl⟩⟩
theorem g_c9_5 : g_gmE 9 (52, 31, 0, 3, true) := Or.inr ⟨by decide, g_j31, by decide +kernel, Or.inr ⟨rfl, "KinGates", List.mem_of_getElem? (i := 12) rfl⟩⟩
theorem g_c9_6 : g_gmE 9 (59, 78, 0, 8, true) := Or.inr ⟨by decide, g_j78, by decide +kernel, Or.inr ⟨rfl, "KinGates", List.mem_of_getElem? (i := 13) rfl⟩⟩
theorem g_c9_7 : g_gmE 9 (66, 64, 0, 6, false) := Or.inr ⟨by decide, g_j64, by decide +kernel, Or.inl ⟨rfl, g_in 330 (by decide +kernel) rfl⟩⟩
theorem g_c9_8 : g_gmE 9 (79, 73, 1, 7, false) := Or.inr ⟨by decide, g_j73, by decide +kernel, Or.inl ⟨rfl, g_in 390 (by decide +kernel) rfl⟩⟩
theorem g_c9_9 : g_gmE 9 (89, 52, 0, 5, false) := Or.inr ⟨by decide, g_j52, by decide +kernel, Or.inl ⟨rfl, g_in 402 (by decide +kernel) rfl⟩⟩
theorem g_c9_10 : g_gmE 9 (101, 3, 1, 0, false) := Or.inr ⟨by decide, g_j3, by decide +kernel, Or.inl ⟨rfl, g_in 563 (by decide +kernel) rfl⟩⟩
theorem g_c9_11 : g_gmE 9 (130, 11, 0, 0, false) := Or.inr ⟨by decide, g_j11, by decide +kernel, Or.inl ⟨rfl, g_in 584 (by decide +kernel) rfl⟩⟩
theorem g_c9_12 : g_gmE 9 (134, 4, 1, 0, false) := Or.inr ⟨by decide, g_j4, by decide +kernel, Or.inl ⟨rfl, g_in 592 (by decide +kernel) rfl⟩⟩
theorem g_c9_13 : g_gmE 9 (143, 125, 1, 99, false) := Or.inr ⟨by decide, g_j125, by decide +kernel, Or.inl ⟨rfl, g_in 593 (by decide +kernel) rfl⟩⟩
theorem g_c9_14 : g_gmE 9 (147, 13, 1, 0, false) := Or.inr ⟨by decide, g_j13, by decide +kernel, Or.inl ⟨rfl, g_in 596 (by decide +kernel) rfl⟩⟩
theorem g_c9_15 : g_gmE 9 (150, 23, 1, 2, false) := Or.inr ⟨by decide, g_j23, by decide +kernel, Or.inl ⟨rfl, g_in 600 (by decide +kernel) rfl⟩⟩
theorem g_c9_16 : g_gmE 9 (153, 28, 1, 2, false) := Or.inr ⟨by decide, g_j28, by decide +kernel, Or.inl ⟨rfl, g_in 618 (by decide +kernel) rfl⟩⟩
theorem g_c9_17 : g_gmE 9 (156, 5, 1, 0, false) := Or.inr ⟨by decide, g_j5, by decide +kernel, Or.inl ⟨rfl, g_in 630 (by decide +kernel) rfl⟩⟩
theorem g_c9_18 : g_gmE 9 (168, 29, 2, 2, false) := Or.inr ⟨by decide, g_j29, by decide +kernel, Or.inl ⟨rfl, g_in 631 (by decide +kernel) rfl⟩⟩
theorem g_c9_19 : g_gmE 9 (172, 123, 1, 99, false) := Or.inr ⟨by decide, g_j123, by decide +kernel, Or.inl ⟨rfl, g_in 639 (by decide +kernel) rfl⟩⟩
theorem g_c9_20 : g_gmE 9 (175, 6, 1, 0, false) := Or.inr ⟨by decide, g_j6, by decide +kernel, Or.inl ⟨rfl, g_in 642 (by decide +kernel) rfl⟩⟩
theorem g_c9_21 : g_gmE 9 (179, 45, 1, 4, false) := Or.inr ⟨by decide, g_j45, by decide +kernel, Or.inl ⟨rfl, g_in 646 (by decide +kernel) rfl⟩⟩
theorem g_c9_22 : g_gmE 9 (191, 27, 2, 2, false) := Or.inr ⟨by decide, g_j27, by decide +kernel, Or.inl ⟨rfl, g_in 658 (by decide +kernel) rfl⟩⟩
theorem g_c9_23 : g_gmE 9 (194, 14, 2, 0, false) := Or.inr ⟨by decide, g_j14, by decide +kernel, Or.inl ⟨rfl, g_in 666 (by decide +kernel) rfl⟩⟩
theorem g_c9_24 : g_gmE 9 (197, 126, 3, 9, false) := Or.inr ⟨by decide, g_j126, by decide +kernel, Or.inl ⟨rfl, g_in 685 (by decide +kernel) rfl⟩⟩
theorem g_c9_25 : g_gmE 9 (201, 48, 1, 4, false) := Or.inr ⟨by decide, g_j48, by decide +kernel, Or.inl ⟨rfl, g_in 698 (by decide +kernel) rfl⟩⟩
theorem g_c9_26 : g_gmE 9 (205, 9, 1, 0, false) := Or.inr ⟨by decide, g_j9, by decide +kernel, Or.inl ⟨rfl, g_in 711 (by decide +kernel) rfl⟩⟩
theorem g_c9_27 : g_gmE 9 (208, 127, 1, 9, false) := Or.inr ⟨by decide, g_j127, by decide +kernel, Or.inl ⟨rfl, g_in 720 (by decide +kernel) rfl⟩⟩
theorem g_c9_28 : g_gmE 9 (211, 128, 2, 9, false) := Or.inr ⟨by decide, g_j128, by decide +kernel, Or.inl ⟨rfl, g_in 729 (by decide +kernel) rfl⟩⟩
theorem g_c9_29 : g_gmE 9 (215, 21, 2, 1, false) := Or.inr ⟨by decide, g_j21, by decide +kernel, Or.inl ⟨rfl, g_in 753 (by decide +kernel) rfl⟩⟩
theorem g_c9_30 : g_gmE 9 (219, 226, 1, 99, false) := Or.inr ⟨by decide, g_j226, by decide +kernel, Or.inl ⟨rfl, g_in 759 (by decide +kernel) rfl⟩⟩
theorem g_c9_31 : g_gmE 9 (227, 129, 1, 9, false) := Or.inr ⟨by decide, g_j129, by decide +kernel, Or.inl ⟨rfl, g_in 765 (by decide +kernel) rfl⟩⟩
theorem g_c9_32 : g_gmE 9 (233, 130, 2, 9, false) := Or.inr ⟨by decide, g_j130, by decide +kernel, Or.inl ⟨rfl, g_in 778 (by decide +kernel) rfl⟩⟩
theorem g_c9_33 : g_gmE 9 (237, 36, 0, 3, false) := Or.inr ⟨by decide, g_j36, by decide +kernel, Or.inl ⟨rfl, g_in 800 (by decide +kernel) rfl⟩⟩
theorem g_c9_34 : g_gmE 9 (240, 37, 0, 3, false) := Or.inr ⟨by decide, g_j37, by decide +kernel, Or.inl ⟨rfl, g_in 804 (by decide +kernel) rfl⟩⟩
theorem g_c9_35 : g_gmE 9 (243, 38, 1, 3, false) := Or.inr ⟨by decide, g_j38, by decide +kernel, Or.inl ⟨rfl, g_in 808 (by decide +kernel) rfl⟩⟩
theorem g_c9_36 : g_gmE 9 (246, 32, 3, 3, false) := Or.inr ⟨by decide, g_j32, by decide +kernel, Or.inl ⟨rfl, g_in 782 (by decide +kernel) rfl⟩⟩
theorem g_c9_37 : g_gmE 9 (250, 40, 1, 3, false) := Or.inr ⟨by decide, g_j40, by decide +kernel, Or.inl ⟨rfl, g_in 821 (by decide +kernel) rfl⟩⟩
theorem g_c9_38 : g_gmE 9 (256, 42, 2, 3, false) := Or.inr ⟨by decide, g_j42, by decide +kernel, Or.inl ⟨rfl, g_in 830 (by decide +kernel) rfl⟩⟩
theorem g_c9_39 : g_gmE 9 (259, 46, 0, 4, false) := Or.inr ⟨by decide, g_j46, by decide +kernel, Or.inl ⟨rfl, g_in 842 (by decide +kernel) rfl⟩⟩
theorem g_c9_40 : g_gmE 9 (263, 131, 3, 9, false) := Or.inr ⟨by decide, g_j131, by decide +kernel, Or.inl ⟨rfl, g_in 843 (by decide +kernel) rfl⟩⟩
theorem g_c9_41 : g_gmE 9 (269, 132, 2, 9, false) := Or.inr ⟨by decide, g_j132, by decide +kernel, Or.inl ⟨rfl, g_in 860 (by decide +kernel) rfl⟩⟩
theorem g_c9_42 : g_gmE 9 (273, 133, 2, 9, false) := Or.inr ⟨by decide, g_j133, by decide +kernel, Or.inl ⟨rfl, g_in 864 (by decide +kernel) rfl⟩⟩
theorem g_c9_43 : g_gmE 9 (277, 124, 2, 99, false) := Or.inr ⟨by decide, g_j124, by decide +kernel, Or.inl ⟨rfl, g_in 769 (by decide +kernel) rfl⟩⟩
theorem g_c9_44 : g_gmE 9 (280, 79, 2, 8, false) := Or.inr ⟨by decide, g_j79, by decide +kernel, Or.inl ⟨rfl, g_in 880 (by decide +kernel) rfl⟩⟩
theorem g_c9_45 : g_gmE 9 (284, 135, 1, 9, false) := Or.inr ⟨by decide, g_j135, by decide +kernel, Or.inl ⟨rfl, g_in 892 (by decide +kernel) rfl⟩⟩
theorem g_c9_46 : g_gmE 9 (287, 18, 2, 1, false) := Or.inr ⟨by decide, g_j18, by decide +kernel, Or.inl ⟨rfl, g_in 724 (by decide +kernel) rfl⟩⟩
theorem g_c9_47 : g_gmE 9 (291, 80, 1, 8, false) := Or.inr ⟨by decide, g_j80, by decide +kernel, Or.inl ⟨rfl, g_in 896 (by decide +kernel) rfl⟩⟩
theorem g_c9_48 : g_gmE 9 (294, 136, 2, 9, false) := Or.inr ⟨by decide, g_j136, by decide +kernel, Or.inl ⟨rfl, g_in 909 (by decide +kernel) rfl⟩⟩
theorem g_c9_49 : g_gmE 9 (297, 19, 1, 1, false) := Or.inr ⟨by decide, g_j19, by decide +kernel, Or.inl ⟨rfl, g_in 733 (by decide +kernel) rfl⟩⟩
theorem g_c9_50 : g_gmE 9 (300, 137, 1, 99, false) := Or.inr ⟨by decide, g_j137, by decide +kernel, Or.inl ⟨rfl, g_in 920 (by decide +kernel) rfl⟩⟩
theorem g_c9_51 : g_gmE 9 (303, 138, 1, 99, false) := Or.inr ⟨by decide, g_j138, by decide +kernel, Or.inl ⟨rfl, g_in 924 (by decide +kernel) rfl⟩⟩
theorem g_c9_52 : g_gmE 9 (306, 20, 2, 1, false) := Or.inr ⟨by decide, g_j20, by decide +kernel, Or.inl ⟨rfl, g_in 737 (by decide +kernel) rfl⟩⟩
theorem g_c9_53 : g_gmE 9 (309, 139, 1, 9, false) := Or.inr ⟨by decide, g_j139, by decide +kernel, Or.inl ⟨rfl, g_in 931 (by decide +kernel) rfl⟩⟩
theorem g_c9_54 : g_gmE 9 (313, 65, 1, 99, false) := Or.inr ⟨by decide, g_j65, by decide +kernel, Or.inl ⟨rfl, g_in 943 (by decide +kernel) rfl⟩⟩
theorem g_c9_55 : g_gmE 9 (316, 66, 1, 99, false) := Or.inr ⟨by decide, g_j66, by decide +kernel, Or.inl ⟨rfl, g_in 946 (by decide +kernel) rfl⟩⟩
theorem g_c9_56 : g_gmE 9 (319, 67, 3, 6, false) := Or.inr ⟨by decide, g_j67, by decide +kernel, Or.inl ⟨rfl, g_in 949 (by decide +kernel) rfl⟩⟩
theorem g_c9_57 : g_gmE 9 (326, 68, 3, 6, false) := Or.inr ⟨by decide, g_j68, by decide +kernel, Or.inl ⟨rfl, g_in 957 (by decide +kernel) rfl⟩⟩
theorem g_c9_58 : g_gmE 9 (329, 70, 3, 6, false) := Or.inr ⟨by decide, g_j70, by decide +kernel, Or.inl ⟨rfl, g_in 961 (by decide +kernel) rfl⟩⟩
theorem g_c9_59 : g_gmE 9 (331, 69, 3, 6, false) := Or.inr ⟨by decide, g_j69, by decide +kernel, Or.inl ⟨rfl, g_in 969 (by decide +kernel) rfl⟩⟩
theorem g_c9_60 : g_gmE 9 (334, 71, 2, 6, false) := Or.inr ⟨by decide, g_j71, by decide +kernel, Or.inl ⟨rfl, g_in 974 (by decide +kernel) rfl⟩⟩
theorem g_c9_61 : g_gmE 9 (340, 140, 3, 9, false) := Or.inr ⟨by decide, g_j140, by decide +kernel, Or.inl ⟨rfl, g_in 978 (by decide +kernel) rfl⟩⟩
theorem g_c9_62 : g_gmE 9 (346, 12, 0, 0, false) := Or.inr ⟨by decide, g_j12, by decide +kernel, Or.inl ⟨rfl, g_in 990 (by decide +kernel) rfl⟩⟩
theorem g_c9_63 : g_gmE 9 (349, 47, 2, 4, false) := Or.inr ⟨by decide, g_j47, by decide +kernel, Or.inl ⟨rfl, g_in 689 (by decide +kernel) rfl⟩⟩
theorem g_c9_64 : g_gmE 9 (351, 10, 2, 0, false) := Or.inr ⟨by decide, g_j10, by decide +kernel, Or.inl ⟨rfl, g_in 742 (by decide +kernel) rfl⟩⟩
theorem g_c9_65 : g_gmE 9 (355, 33, 0, 3, false) := Or.inr ⟨by decide, g_j33, by decide +kernel, Or.inl ⟨rfl, g_in 787 (by decide +kernel) rfl⟩⟩
theorem g_c9_66 : g_gmE 9 (360, 134, 2, 99, false) := Or.inr ⟨by decide, g_j134, by decide +kernel, Or.inl ⟨rfl, g_in 869 (by decide +kernel) rfl⟩⟩
set_option maxRecDepth 100000 in
theorem g_c9_67 : g_gmE 9 (364, 0, 2, 96, false) := Or.inl ⟨rfl, Or.inr (Or.inr (Or.inr (Or.inr (Or.inr (⟨rfl, g_in 913 (by decide +kernel) rfl, g_in 914 (by decide +kernel) rfl, g_in 88 (by decide +kernel) rfl, g_in 915 (by exact rfl) rfl⟩)))))⟩
theorem g_c9 : ∀ q ∈ g_cl 9, g_gmE 9 q := List.forall_mem_cons.mpr ⟨g_c9_0, List.forall_mem_cons.mpr ⟨g_c9_1, List.forall_mem_cons.mpr ⟨g_c9_2, List.forall_mem_cons.mpr ⟨g_c9_3, List.forall_mem_cons.mpr ⟨g_c9_4, List.forall_mem_cons.mpr ⟨g_c9_5, List.forall_mem_cons.mpr ⟨g_c9_6, List.forall_mem_cons.mpr ⟨g_c9_7, List.forall_mem_cons.mpr ⟨g_c9_8, List.forall_mem_cons.mpr ⟨g_c9_9, List.forall_mem_cons.mpr ⟨g_c9_10, List.forall_mem_cons.mpr ⟨g_c9_11, List.forall_mem_cons.mpr ⟨g_c9_12, List.forall_mem_cons.mpr ⟨g_c9_13, List.forall_mem_cons.mpr ⟨g_c9_14, List.forall_mem_cons.mpr ⟨g_c9_15, List.forall_mem_cons.mpr ⟨g_c9_16, List.forall_mem_cons.mpr ⟨g_c9_17, List.forall_mem_cons.mpr ⟨g_c9_18, List.forall_mem_cons.mpr ⟨g_c9_19, List.forall_mem_cons.mpr ⟨g_c9_20, List.forall_mem_cons.mpr ⟨g_c9_21, List.forall_mem_cons.mpr ⟨g_c9_22, List.forall_mem_cons.mpr ⟨g_c9_23, List.forall_mem_cons.mpr ⟨g_c9_24, List.forall_mem_cons.mpr ⟨g_c9_25, List.forall_mem_cons.mpr ⟨g_c9_26, List.forall_mem_cons.mpr ⟨g_c9_27, List.forall_mem_cons.mpr ⟨g_c9_28, List.forall_mem_cons.mpr ⟨g_c9_29, List.forall_mem_cons.mpr ⟨g_c9_30, List.forall_mem_cons.mpr ⟨g_c9_31, List.forall_mem_cons.mpr ⟨g_c9_32, List.forall_mem_cons.mpr ⟨g_c9_33, List.forall_mem_cons.mpr ⟨g_c9_34, List.forall_mem_cons.mpr ⟨g_c9_35, List.forall_mem_cons.mpr ⟨g_c9_36, List.forall_mem_cons.mpr ⟨g_c9_37, List.forall_mem_cons.mpr ⟨g_c9_38, List.forall_mem_cons.mpr ⟨g_c9_39, List.forall_mem_cons.mpr ⟨g_c9_40, List.forall_mem_cons.mpr ⟨g_c9_41, List.forall_mem_cons.mpr ⟨g_c9_42, List.forall_mem_cons.mpr ⟨g_c9_43, List.forall_mem_cons.mpr ⟨g_c9_44, List.forall_mem_cons.mpr ⟨g_c9_45, List.forall_mem_cons.mpr ⟨g_c9_46, List.forall_mem_cons.mpr ⟨g_c9_47, List.forall_mem_cons.mpr ⟨g_c9_48, List.forall_mem_cons.mpr ⟨g_c9_49, List.forall_mem_cons.mpr ⟨g_c9_50, List.forall_mem_cons.mpr ⟨g_c9_51, List.forall_mem_cons.mpr ⟨g_c9_52, List.forall_mem_cons.mpr ⟨g_c9_53, List.forall_mem_cons.mpr ⟨g_c9_54, List.forall_mem_cons.mpr ⟨g_c9_55, List.forall_mem_cons.mpr ⟨g_c9_56, List.forall_mem_cons.mpr ⟨g_c9_57, List.forall_mem_cons.mpr ⟨g_c9_58, List.forall_mem_cons.mpr ⟨g_c9_59, List.forall_mem_cons.mpr ⟨g_c9_60, List.forall_mem_cons.mpr ⟨g_c9_61, List.forall_mem_cons.mpr ⟨g_c9_62, List.forall_mem_cons.mpr ⟨g_c9_63, List.forall_mem_cons.mpr ⟨g_c9_64, List.forall_mem_cons.mpr ⟨g_c9_65, List.forall_mem_cons.mpr ⟨g_c9_66, List.forall_mem_cons.mpr ⟨g_c9_67, fun _ h => absurd h List.not_mem_nil⟩⟩⟩⟩⟩⟩⟩⟩⟩⟩⟩⟩⟩⟩⟩⟩⟩⟩⟩⟩⟩⟩⟩⟩⟩⟩⟩⟩⟩⟩⟩⟩⟩⟩⟩⟩⟩⟩⟩⟩⟩⟩⟩⟩⟩⟩⟩⟩⟩⟩⟩⟩⟩⟩⟩⟩⟩⟩⟩⟩⟩⟩⟩⟩⟩⟩⟩⟩
theorem g_c10_0 : g_gmE 10 (1, 0, 0, 0, false) := Or.inl ⟨rfl, Or.inl ⟨rfl, g_in 999 (by decide +kernel) rfl⟩⟩
theorem g_c10_1 : g_gmE 10 (58, 142, 3, 99, false) := Or.inr ⟨by decide, g_j142, by decide +kernel, Or.inl ⟨rfl, g_in 1117 (by decide +kernel) rfl⟩⟩
theorem g_c10_2 : g_gmE 10 (81, 145, 1, 10, false) := Or.inr ⟨by decide, g_j145, by decide +kernel, Or.inl ⟨rfl, g_in 1132 (by decide +kernel) rfl⟩⟩
theorem g_c10_3 : g_gmE 10 (96, 146, 1, 10, false) := Or.inr ⟨by decide, g_j146, by decide +kernel, Or.inl ⟨rfl, g_in 1140 (by decide +kernel) rfl⟩⟩
theorem g_c10_4 : g_gmE 10 (100, 148, 0, 10, false) := Or.inr ⟨by decide, g_j148, by decide +kernel, Or.inl ⟨rfl, g_in 1128 (by decide +kernel) rfl⟩⟩
theorem g_c10_5 : g_gmE 10 (103, 149, 2, 10, false) := Or.inr ⟨by decide, g_j149, by decide +kernel, Or.inl ⟨rfl, g_in 1157 (by decide +kernel) rfl⟩⟩
theorem g_c10_6 : g_gmE 10 (110, 150, 0, 10, false) := Or.inr ⟨by decide, g_j150, by decide +kernel, Or.inl ⟨rfl, g_in 1165 (by decide +kernel) rfl⟩⟩
theorem g_c10_7 : g_gmE 10 (120, 151, 2, 10, false) := Or.inr ⟨by decide, g_j151, by decide +kernel, Or.inl ⟨rfl, g_in 1161 (by decide +kernel) rfl⟩⟩
theorem g_c10_8 : g_gmE 10 (127, 152, 0, 10, false) := Or.inr ⟨by decide, g_j152, by decide +kernel, Or.inl ⟨rfl, g_in 1169 (by decide +kernel) rfl⟩⟩
theorem g_c10_9 : g_gmE 10 (130, 147, 0, 10, false) := Or.inr ⟨by decide, g_j147, by decide +kernel, Or.inl ⟨rfl, g_in 1148 (by decide +kernel) rfl⟩⟩
theorem g_c10_10 : g_gmE 10 (139, 153, 1, 10, false) := Or.inr ⟨by decide, g_j153, by decide +kernel, Or.inl ⟨rfl, g_in 1153 (by decide +kernel) rfl⟩⟩
theorem g_c10_11 : g_gmE 10 (142, 154, 0, 10, false) := Or.inr ⟨by decide, g_j154, by decide +kernel, Or.inl ⟨rfl, g_in 1144 (by decide +kernel) rfl⟩⟩
theorem g_c10_12 : g_gmE 10 (157, 159, 0, 10, false) := Or.inr ⟨by decide, g_j159, by decide +kernel, Or.inl ⟨rfl, g_in 1181 (by decide +kernel) rfl⟩⟩
theorem g_c10_13 : g_gmE 10 (161, 161, 3, 10, false) := Or.inr ⟨by decide, g_j161, by decide +kernel, Or.inl ⟨rfl, g_in 1198 (by decide +kernel) rfl⟩⟩
theorem g_c10_14 : g_gmE 10 (165, 163, 2, 10, false) := Or.inr ⟨by decide, g_j163, by decide +kernel, Or.inl ⟨rfl, g_in 1229 (by decide +kernel) rfl⟩⟩
theorem g_c10_15 : g_gmE 10 (169, 157, 1, 10, false) := Or.inr ⟨by decide, g_j157, by decide +kernel, Or.inl ⟨rfl, g_in 1189 (by decide +kernel) rfl⟩⟩
theorem g_c10_16 : g_gmE 10 (173, 162, 1, 10, false) := Or.inr ⟨by decide, g_j162, by decide +kernel, Or.inl ⟨rfl, g_in 1193 (by decide +kernel) rfl⟩⟩
theorem g_c10_17 : g_gmE 10 (176, 167, 1, 99, false) := Or.inr ⟨by decide, g_j167, by decide +kernel, Or.inl ⟨rfl, g_in 1202 (by decide +kernel) rfl⟩⟩
theorem g_c10_18 : g_gmE 10 (179, 166, 1, 10, false) := Or.inr ⟨by decide, g_j166, by decide +kernel, Or.inl ⟨rfl, g_in 1205 (by decide +kernel) rfl⟩⟩
theorem g_c10_19 : g_gmE 10 (182, 165, 1, 10, false) := Or.inr ⟨by decide, g_j165, by decide +kernel, Or.inl ⟨rfl, g_in 1209 (by decide +kernel) rfl⟩⟩
theorem g_c10_20 : g_gmE 10 (185, 164, 3, 10, false) := Or.inr ⟨by decide, g_j164, by decide +kernel, Or.inl ⟨rfl, g_in 1225 (by decide +kernel) rfl⟩⟩
theorem g_c10_21 : g_gmE 10 (189, 158, 1, 10, false) := Or.inr ⟨by decide, g_j158, by decide +kernel, Or.inl ⟨rfl, g_in 1217 (by decide +kernel) rfl⟩⟩
theorem g_c10_22 : g_gmE 10 (192, 169, 2, 10, false) := Or.inr ⟨by decide, g_j169, by decide +kernel, Or.inl ⟨rfl, g_in 1221 (by decide +kernel) rfl⟩⟩
theorem g_c10_23 : g_gmE 10 (195, 171, 1, 99, false) := Or.inr ⟨by decide, g_j171, by decide +kernel, Or.inl ⟨rfl, g_in 1241 (by decide +kernel) rfl⟩⟩
theorem g_c10_24 : g_gmE 10 (198, 172, 2, 10, false) := Or.inr ⟨by decide, g_j172, by decide +kernel, Or.inl ⟨rfl, g_in 1237 (by decide +kernel) rfl⟩⟩
theorem g_c10_25 : g_gmE 10 (201, 176, 1, 10, false) := Or.inr ⟨by decide, g_j176, by decide +kernel, Or.inl ⟨rfl, g_in 1256 (by decide +kernel) rfl⟩⟩
theorem g_c10_26 : g_gmE 10 (204, 178, 4, 10, false) := Or.inr ⟨by decide, g_j178, by decide +kernel, Or.inl ⟨rfl, g_in 1264 (by decide +kernel) rfl⟩⟩
theorem g_c10_27 : g_gmE 10 (210, 180, 3, 10, false) := Or.inr ⟨by decide, g_j180, by decide +kernel, Or.inl ⟨rfl, g_in 1273 (by decide +kernel) rfl⟩⟩
theorem g_c10_28 : g_gmE 10 (216, 187, 3, 10, false) := Or.inr ⟨by decide, g_j187, by decide +kernel, Or.inl ⟨rfl, g_in 1306 (by decide +kernel) rfl⟩⟩
theorem g_c10_29 : g_gmE 10 (219, 188, 2, 10, false) := Or.inr ⟨by decide, g_j188, by decide +kernel, Or.inl ⟨rfl, g_in 1302 (by decide +kernel) rfl⟩⟩
theorem g_c10_30 : g_gmE 10 (222, 190, 2, 10, false) := Or.inr ⟨by decide, g_j190, by decide +kernel, Or.inl ⟨rfl, g_in 1318 (by decide +kernel) rfl⟩⟩
theorem g_c10_31 : g_gmE 10 (231, 191, 2, 10, false) := Or.inr ⟨by decide, g_j191, by decide +kernel, Or.inl ⟨rfl, g_in 1314 (by decide +kernel) rfl⟩⟩
theorem g_c10_32 : g_gmE 10 (234, 192, 1, 99, false) := Or.inr ⟨by decide, g_j192, by decide +kernel, Or.inl ⟨rfl, g_in 1322 (by decide +kernel) rfl⟩⟩
theorem g_c10_33 : g_gmE 10 (237, 193, 0, 10, false) := Or.inr ⟨by decide, g_j193, by decide +kernel, Or.inl ⟨rfl, g_in 1325 (by decide +kernel) rfl⟩⟩
theorem g_c10_34 : g_gmE 10 (246, 196, 2, 10, false) := Or.inr ⟨by decide, g_j196, by decide +kernel, Or.inl ⟨rfl, g_in 1343 (by decide +kernel) rfl⟩⟩
theorem g_c10_35 : g_gmE 10 (249, 197, 1, 10, false) := Or.inr ⟨by decide, g_j197, by decide +kernel, Or.inl ⟨rfl, g_in 1347 (by decide +kernel) rfl⟩⟩
theorem g_c10_36 : g_gmE 10 (256, 198, 1, 10, false) := Or.inr ⟨by decide, g_j198, by decide +kernel, Or.inl ⟨rfl, g_in 1339 (by decide +kernel) rfl⟩⟩
theorem g_c10_37 : g_gmE 10 (259, 200, 3, 10, false) := Or.inr ⟨by decide, g_j200, by decide +kernel, Or.inl ⟨rfl, g_in 1355 (by decide +kernel) rfl⟩⟩
theorem g_c10_38 : g_gmE 10 (262, 205, 3, 99, false) := Or.inr ⟨by decide, g_j205, by decide +kernel, Or.inl ⟨rfl, g_in 1379 (by decide +kernel) rfl⟩⟩
theorem g_c10_39 : g_gmE 10 (266, 206, 3, 10, false) := Or.inr ⟨by decide, g_j206, by decide +kernel, Or.inl ⟨rfl, g_in 1375 (by decide +kernel) rfl⟩⟩
theorem g_c10_40 : g_gmE 10 (272, 211, 0, 10, false) := Or.inr ⟨by decide, g_j211, by decide +kernel, Or.inl ⟨rfl, g_in 1403 (by decide +kernel) rfl⟩⟩
theorem g_c10_41 : g_gmE 10 (276, 212, 1, 10, false) := Or.inr ⟨by decide, g_j212, by decide +kernel, Or.inl ⟨rfl, g_in 1399 (by decide +kernel) rfl⟩⟩
theorem g_c10_42 : g_gmE 10 (285, 216, 1, 10, false) := Or.inr ⟨by decide, g_j216, by decide +kernel, Or.inl ⟨rfl, g_in 1420 (by decide +kernel) rfl⟩⟩
theorem g_c10 : ∀ q ∈ g_cl 10, g_gmE 10 q := List.forall_mem_cons.mpr ⟨g_c10_0, List.forall_mem_cons.mpr ⟨g_c10_1, List.forall_mem_cons.mpr ⟨g_c10_2, List.forall_mem_cons.mpr ⟨g_c10_3, List.forall_mem_cons.mpr ⟨g_c10_4, List.forall_mem_cons.mpr ⟨g_c10_5, List.forall_mem_cons.mpr ⟨g_c10_6, List.forall_mem_cons.mpr ⟨g_c10_7, List.forall_mem_cons.mpr ⟨g_c10_8, List.forall_mem_cons.mpr ⟨g_c10_9, List.forall_mem_cons.mpr ⟨g_c10_10, List.forall_mem_cons.mpr ⟨g_c10_11, List.forall_mem_cons.mpr ⟨g_c10_12, List.forall_mem_cons.mpr ⟨g_c10_13, List.forall_mem_cons.mpr ⟨g_c10_14, List.forall_mem_cons.mpr ⟨g_c10_15, List.forall_mem_cons.mpr ⟨g_c10_16, List.forall_mem_cons.mpr ⟨g_c10_17, List.forall_mem_cons.mpr ⟨g_c10_18, List.forall_mem_cons.mpr ⟨g_c10_19, List.forall_mem_cons.mpr ⟨g_c10_20, List.forall_mem_cons.mpr ⟨g_c10_21, List.forall_mem_cons.mpr ⟨g_c10_22, List.forall_mem_cons.mpr ⟨g_c10_23, List.forall_mem_cons.mpr ⟨g_c10_24, List.forall_mem_cons.mpr ⟨g_c10_25, List.forall_mem_cons.mpr ⟨g_c10_26, List.forall_mem_cons.mpr ⟨g_c10_27, List.forall_mem_cons.mpr ⟨g_c10_28, List.forall_mem_cons.mpr ⟨g_c10_29, List.forall_mem_cons.mpr ⟨g_c10_30, List.forall_mem_cons.mpr ⟨g_c10_31, List.forall_mem_cons.mpr ⟨g_c10_32, List.forall_mem_cons.mpr ⟨g_c10_33, List.forall_mem_cons.mpr ⟨g_c10_34, List.forall_mem_cons.mpr ⟨g_c10_35, List.forall_mem_cons.mpr ⟨g_c10_36, List.forall_mem_cons.mpr ⟨g_c10_37, List.forall_mem_cons.mpr ⟨g_c10_38, List.forall_mem_cons.mpr ⟨g_c10_39, List.forall_mem_cons.mpr ⟨g_c10_40, List.forall_mem_cons.mpr ⟨g_c10_41, List.forall_mem_cons.mpr ⟨g_c10_42, fun _ h => absurd h List.not_mem_nil⟩⟩⟩⟩⟩⟩⟩⟩⟩⟩⟩⟩⟩⟩⟩⟩⟩⟩⟩⟩⟩⟩⟩⟩⟩⟩⟩⟩⟩⟩⟩⟩⟩⟩⟩⟩⟩⟩⟩⟩⟩⟩⟩
theorem g_c11_0 : g_gmE 11 (9, 81, 0, 9, false) := Or.inr ⟨by decide, g_j81, by decide +kernel, Or.inl ⟨rfl, g_in 92 (by decide +kernel) rfl⟩⟩
theorem g_c11_1 : g_gmE 11 (12, 141, 0, 10, false) := Or.inr ⟨by decide, g_j141, by decide +kernel, Or.inl ⟨rfl, g_in 996 (by decide +kernel) rfl⟩⟩
theorem g_c11_2 : g_gmE 11 (13, 82, 1, 9, false) := Or.inr ⟨by decide, g_j82, by decide +kernel, Or.inl ⟨rfl, g_in 386 (by decide +kernel) rfl⟩⟩
theorem g_c11_3 : g_gmE 11 (17, 143, 1, 10, false) := Or.inr ⟨by decide, g_j143, by decide +kernel, Or.inl ⟨rfl, g_in 1112 (by decide +kernel) rfl⟩⟩
theorem g_c11_4 : g_gmE 11 (18, 83, 1, 9, false) := Or.inr ⟨by decide, g_j83, by decide +kernel, Or.inl ⟨rfl, g_in 394 (by decide +kernel) rfl⟩⟩
theorem g_c11_5 : g_gmE 11 (21, 144, 1, 10, false) := Or.inr ⟨by decide, g_j144, by decide +kernel, Or.inl ⟨rfl, g_in 1120 (by decide +kernel) rfl⟩⟩
theorem g_c11_6 : g_gmE 11 (22, 84, 0, 9, false) := Or.inr ⟨by decide, g_j84, by decide +kernel, Or.inl ⟨rfl, g_in 398 (by decide +kernel) rfl⟩⟩
theorem g_c11_7 : g_gmE 11 (26, 155, 0, 10, false) := Or.inr ⟨by decide, g_j155, by decide +kernel, Or.inl ⟨rfl, g_in 1124 (by decide +kernel) rfl⟩⟩
theorem g_c11_8 : g_gmE 11 (27, 85, 0, 9, false) := Or.inr ⟨by decide, g_j85, by decide +kernel, Or.inl ⟨rfl, g_in 576 (by decide +kernel) rfl⟩⟩
theorem g_c11_9 : g_gmE 11 (30, 156, 0, 10, false) := Or.inr ⟨by decide, g_j156, by decide +kernel, Or.inl ⟨rfl, g_in 1173 (by decide +kernel) rfl⟩⟩
theorem g_c11_10 : g_gmE 11 (31, 86, 1, 9, false) := Or.inr ⟨by decide, g_j86, by decide +kernel, Or.inl ⟨rfl, g_in 580 (by decide +kernel) rfl⟩⟩
theorem g_c11_11 : g_gmE 11 (34, 160, 1, 10, false) := Or.inr ⟨by decide, g_j160, by decide +kernel, Or.inl ⟨rfl, g_in 1177 (by decide +kernel) rfl⟩⟩
theorem g_c11_12 : g_gmE 11 (35, 87, 2, 9, false) := Or.inr ⟨by decide, g_j87, by decide +kernel, Or.inl ⟨rfl, g_in 588 (by decide +kernel) rfl⟩⟩
theorem g_c11_13 : g_gmE 11 (39, 168, 2, 10, false) := Or.inr ⟨by decide, g_j168, by decide +kernel, Or.inl ⟨rfl, g_in 1185 (by decide +kernel) rfl⟩⟩
theorem g_c11_14 : g_gmE 11 (40, 88, 2, 9, false) := Or.inr ⟨by decide, g_j88, by decide +kernel, Or.inl ⟨rfl, g_in 626 (by decide +kernel) rfl⟩⟩
theorem g_c11_15 : g_gmE 11 (43, 170, 2, 10, false) := Or.inr ⟨by decide, g_j170, by decide +kernel, Or.inl ⟨rfl, g_in 1213 (by decide +kernel) rfl⟩⟩
theorem g_c11_16 : g_gmE 11 (44, 89, 2, 9, false) := Or.inr ⟨by decide, g_j89, by decide +kernel, Or.inl ⟨rfl, g_in 635 (by decide +kernel) rfl⟩⟩
theorem g_c11_17 : g_gmE 11 (47, 173, 2, 10, false) := Or.inr ⟨by decide, g_j173, by decide +kernel, Or.inl ⟨rfl, g_in 1233 (by decide +kernel) rfl⟩⟩
theorem g_c11_18 : g_gmE 11 (48, 90, 1, 9, false) := Or.inr ⟨by decide, g_j90, by decide +kernel, Or.inl ⟨rfl, g_in 650 (by decide +kernel) rfl⟩⟩
theorem g_c11_19 : g_gmE 11 (51, 174, 1, 10, false) := Or.inr ⟨by decide, g_j174, by decide +kernel, Or.inl ⟨rfl, g_in 1244 (by decide +kernel) rfl⟩⟩
theorem g_c11_20 : g_gmE 11 (52, 91, 2, 9, false) := Or.inr ⟨by decide, g_j91, by decide +kernel, Or.inl ⟨rfl, g_in 654 (by decide +kernel) rfl⟩⟩
theorem g_c11_21 : g_gmE 11 (55, 175, 2, 10, false) := Or.inr ⟨by decide, g_j175, by decide +kernel, Or.inl ⟨rfl, g_in 1248 (by decide +kernel) rfl⟩⟩
theorem g_c11_22 : g_gmE 11 (56, 92, 2, 9, false) := Or.inr ⟨by decide, g_j92, by decide +kernel, Or.inl ⟨rfl, g_in 662 (by decide +kernel) rfl⟩⟩
theorem g_c11_23 : g_gmE 11 (59, 177, 2, 10, false) := Or.inr ⟨by decide, g_j177, by decide +kernel, Or.inl ⟨rfl, g_in 1252 (by decide +kernel) rfl⟩⟩
theorem g_c11_24 : g_gmE 11 (60, 93, 3, 9, false) := Or.inr ⟨by decide, g_j93, by decide +kernel, Or.inl ⟨rfl, g_in 677 (by decide +kernel) rfl⟩⟩
theorem g_c11_25 : g_gmE 11 (64, 179, 3, 10, false) := Or.inr ⟨by decide, g_j179, by decide +kernel, Or.inl ⟨rfl, g_in 1260 (by decide +kernel) rfl⟩⟩
theorem g_c11_26 : g_gmE 11 (65, 94, 2, 9, false) := Or.inr ⟨by decide, g_j94, by decide +kernel, Or.inl ⟨rfl, g_in 681 (by decide +kernel) rfl⟩⟩
theorem g_c11_27 : g_gmE 11 (68, 181, 2, 10, false) := Or.inr ⟨by decide, g_j181, by decide +kernel, Or.inl ⟨rfl, g_in 1269 (by decide +kernel) rfl⟩⟩
theorem g_c11_28 : g_gmE 11 (69, 95, 2, 9, false) := Or.inr ⟨by decide, g_j95, by decide +kernel, Or.inl ⟨rfl, g_in 690 (by decide +kernel) rfl⟩⟩
theorem g_c11_29 : g_gmE 11 (72, 182, 2, 10, false) := Or.inr ⟨by decide, g_j182, by decide +kernel, Or.inl ⟨rfl, g_in 1277 (by decide +kernel) rfl⟩⟩
theorem g_c11_30 : g_gmE 11 (73, 96, 2, 9, false) := Or.inr ⟨by decide, g_j96, by decide +kernel, Or.inl ⟨rfl, g_in 694 (by decide +kernel) rfl⟩⟩
theorem g_c11_31 : g_gmE 11 (76, 183, 2, 10, false) := Or.inr ⟨by decide, g_j183, by decide +kernel, Or.inl ⟨rfl, g_in 1281 (by decide +kernel) rfl⟩⟩
theorem g_c11_32 : g_gmE 11 (77, 97, 3, 9, false) := Or.inr ⟨by decide, g_j97, by decide +kernel, Or.inl ⟨rfl, g_in 703 (by decide +kernel) rfl⟩⟩
theorem g_c11_33 : g_gmE 11 (80, 184, 3, 10, false) := Or.inr ⟨by decide, g_j184, by decide +kernel, Or.inl ⟨rfl, g_in 1285 (by decide +kernel) rfl⟩⟩
theorem g_c11_34 : g_gmE 11 (81, 98, 1, 9, false) := Or.inr ⟨by decide, g_j98, by decide +kernel, Or.inl ⟨rfl, g_in 707 (by decide +kernel) rfl⟩⟩
theorem g_c11_35 : g_gmE 11 (84, 185, 1, 10, false) := Or.inr ⟨by decide, g_j185, by decide +kernel, Or.inl ⟨rfl, g_in 1290 (by decide +kernel) rfl⟩⟩
theorem g_c11_36 : g_gmE 11 (85, 99, 1, 9, false) := Or.inr ⟨by decide, g_j99, by decide +kernel, Or.inl ⟨rfl, g_in 712 (by decide +kernel) rfl⟩⟩
theorem g_c11_37 : g_gmE 11 (88, 186, 1, 10, false) := Or.inr ⟨by decide, g_j186, by decide +kernel, Or.inl ⟨rfl, g_in 1294 (by decide +kernel) rfl⟩⟩
theorem g_c11_38 : g_gmE 11 (89, 100, 2, 9, false) := Or.inr ⟨by decide, g_j100, by decide +kernel, Or.inl ⟨rfl, g_in 716 (by decide +kernel) rfl⟩⟩
theorem g_c11_39 : g_gmE 11 (92, 189, 2, 10, false) := Or.inr ⟨by decide, g_j189, by decide +kernel, Or.inl ⟨rfl, g_in 1298 (by decide +kernel) rfl⟩⟩
theorem g_c11_40 : g_gmE 11 (93, 101, 1, 9, false) := Or.inr ⟨by decide, g_j101, by decide +kernel, Or.inl ⟨rfl, g_in 749 (by decide +kernel) rfl⟩⟩
theorem g_c11_41 : g_gmE 11 (96, 194, 1, 10, false) := Or.inr ⟨by decide, g_j194, by decide +kernel, Or.inl ⟨rfl, g_in 1310 (by decide +kernel) rfl⟩⟩
theorem g_c11_42 : g_gmE 11 (97, 102, 1, 9, false) := Or.inr ⟨by decide, g_j102, by decide +kernel, Or.inl ⟨rfl, g_in 770 (by decide +kernel) rfl⟩⟩
theorem g_c11_43 : g_gmE 11 (100, 195, 1, 10, false) := Or.inr ⟨by decide, g_j195, by decide +kernel, Or.inl ⟨rfl, g_in 1329 (by decide +kernel) rfl⟩⟩
theorem g_c11_44 : g_gmE 11 (101, 103, 2, 9, false) := Or.inr ⟨by decide, g_j103, by decide +kernel, Or.inl ⟨rfl, g_in 774 (by decide +kernel) rfl⟩⟩
theorem g_c11_45 : g_gmE 11 (104, 199, 2, 10, false) := Or.inr ⟨by decide, g_j199, by decide +kernel, Or.inl ⟨rfl, g_in 1333 (by decide +kernel) rfl⟩⟩
theorem g_c11_46 : g_gmE 11 (105, 104, 3, 9, false) := Or.inr ⟨by decide, g_j104, by decide +kernel, Or.inl ⟨rfl, g_in 817 (by decide +kernel) rfl⟩⟩
theorem g_c11_47 : g_gmE 11 (108, 201, 3, 10, false) := Or.inr ⟨by decide, g_j201, by decide +kernel, Or.inl ⟨rfl, g_in 1351 (by decide +kernel) rfl⟩⟩
theorem g_c11_48 : g_gmE 11 (109, 105, 2, 9, false) := Or.inr ⟨by decide, g_j105, by decide +kernel, Or.inl ⟨rfl, g_in 838 (by decide +kernel) rfl⟩⟩
theorem g_c11_49 : g_gmE 11 (112, 202, 2, 10, false) := Or.inr ⟨by decide, g_j202, by decide +kernel, Or.inl ⟨rfl, g_in 1359 (by decide +kernel) rfl⟩⟩
theorem g_c11_50 : g_gmE 11 (113, 106, 0, 9, false) := Or.inr ⟨by decide, g_j106, by decide +kernel, Or.inl ⟨rfl, g_in 847 (by decide +kernel) rfl⟩⟩
theorem g_c11_51 : g_gmE 11 (116, 203, 0, 10, false) := Or.inr ⟨by decide, g_j203, by decide +kernel, Or.inl ⟨rfl, g_in 1363 (by decide +kernel) rfl⟩⟩
theorem g_c11_52 : g_gmE 11 (117, 107, 1, 9, false) := Or.inr ⟨by decide, g_j107, by decide +kernel, Or.inl ⟨rfl, g_in 851 (by decide +kernel) rfl⟩⟩
theorem g_c11_53 : g_gmE 11 (120, 204, 1, 10, false) := Or.inr ⟨by decide, g_j204, by decide +kernel, Or.inl ⟨rfl, g_in 1367 (by decide +kernel) rfl⟩⟩
theorem g_c11_54 : g_gmE 11 (121, 108, 2, 9, false) := Or.inr ⟨by decide, g_j108, by decide +kernel, Or.inl ⟨rfl, g_in 855 (by decide +kernel) rfl⟩⟩
theorem g_c11_55 : g_gmE 11 (125, 207, 2, 10, false) := Or.inr ⟨by decide, g_j207, by decide +kernel, Or.inl ⟨rfl, g_in 1371 (by decide +kernel) rfl⟩⟩
theorem g_c11_56 : g_gmE 11 (126, 109, 3, 9, false) := Or.inr ⟨by decide, g_j109, by decide +kernel, Or.inl ⟨rfl, g_in 872 (by decide +kernel) rfl⟩⟩
theorem g_c11_57 : g_gmE 11 (130, 208, 3, 10, false) := Or.inr ⟨by decide, g_j208, by decide +kernel, Or.inl ⟨rfl, g_in 1383 (by decide +kernel) rfl⟩⟩
theorem g_c11_58 : g_gmE 11 (131, 110, 2, 9, false) := Or.inr ⟨by decide, g_j110, by decide +kernel, Or.inl ⟨rfl, g_in 876 (by decide +kernel) rfl⟩⟩
theorem g_c11_59 : g_gmE 11 (135, 209, 2, 10, false) := Or.inr ⟨by decide, g_j209, by decide +kernel, Or.inl ⟨rfl, g_in 1387 (by decide +kernel) rfl⟩⟩
theorem g_c11_60 : g_gmE 11 (136, 111, 1, 9, false) := Or.inr ⟨by decide, g_j111, by decide +kernel, Or.inl ⟨rfl, g_in 884 (by decide +kernel) rfl⟩⟩
theorem g_c11_61 : g_gmE 11 (139, 210, 1, 10, false) := Or.inr ⟨by decide, g_j210, by decide +kernel, Or.inl ⟨rfl, g_in 1391 (by decide +kernel) rfl⟩⟩
theorem g_c11_62 : g_gmE 11 (140, 112, 1, 9, false) := Or.inr ⟨by decide, g_j112, by decide +kernel, Or.inl ⟨rfl, g_in 888 (by decide +kernel) rfl⟩⟩
theorem g_c11_63 : g_gmE 11 (143, 213, 1, 10, false) := Or.inr ⟨by decide, g_j213, by decide +kernel, Or.inl ⟨rfl, g_in 1395 (by decide +kernel) rfl⟩⟩
theorem g_c11_64 : g_gmE 11 (144, 113, 1, 9, false) := Or.inr ⟨by decide, g_j113, by decide +kernel, Or.inl ⟨rfl, g_in 901 (by decide +kernel) rfl⟩⟩
theorem g_c11_65 : g_gmE 11 (147, 214, 1, 10, false) := Or.inr ⟨by decide, g_j214, by decide +kernel, Or.inl ⟨rfl, g_in 1407 (by decide +kernel) rfl⟩⟩
theorem g_c11_66 : g_gmE 11 (148, 114, 2, 9, false) := Or.inr ⟨by decide, g_j114, by decide +kernel, Or.inl ⟨rfl, g_in 905 (by decide +kernel) rfl⟩⟩
theorem g_c11_67 : g_gmE 11 (151, 215, 2, 10, false) := Or.inr ⟨by decide, g_j215, by decide +kernel, Or.inl ⟨rfl, g_in 1411 (by decide +kernel) rfl⟩⟩
theorem g_c11_68 : g_gmE 11 (152, 115, 3, 9, false) := Or.inr ⟨by decide, g_j115, by decide +kernel, Or.inl ⟨rfl, g_in 916 (by decide +kernel) rfl⟩⟩
theorem g_c11_69 : g_gmE 11 (155, 217, 3, 10, false) := Or.inr ⟨by decide, g_j217, by decide +kernel, Or.inl ⟨rfl, g_in 1415 (by decide +kernel) rfl⟩⟩
theorem g_c11_70 : g_gmE 11 (156, 116, 1, 9, false) := Or.inr ⟨by decide, g_j116, by decide +kernel, Or.inl ⟨rfl, g_in 927 (by decide +kernel) rfl⟩⟩
theorem g_c11_71 : g_gmE 11 (159, 218, 1, 10, false) := Or.inr ⟨by decide, g_j218, by decide +kernel, Or.inl ⟨rfl, g_in 1425 (by decide +kernel) rfl⟩⟩
theorem g_c11_72 : g_gmE 11 (160, 117, 1, 9, false) := Or.inr ⟨by decide, g_j117, by decide +kernel, Or.inl ⟨rfl, g_in 935 (by decide +kernel) rfl⟩⟩
theorem g_c11_73 : g_gmE 11 (163, 219, 1, 10, false) := Or.inr ⟨by decide, g_j219, by decide +kernel, Or.inl ⟨rfl, g_in 1429 (by decide +kernel) rfl⟩⟩
theorem g_c11_74 : g_gmE 11 (164, 118, 3, 9, false) := Or.inr ⟨by decide, g_j118, by decide +kernel, Or.inl ⟨rfl, g_in 939 (by decide +kernel) rfl⟩⟩
theorem g_c11_75 : g_gmE 11 (167, 220, 3, 10, false) := Or.inr ⟨by decide, g_j220, by decide +kernel, Or.inl ⟨rfl, g_in 1433 (by decide +kernel) rfl⟩⟩
theorem g_c11_76 : g_gmE 11 (168, 119, 3, 9, false) := Or.inr ⟨by decide, g_j119, by decide +kernel, Or.inl ⟨rfl, g_in 953 (by decide +kernel) rfl⟩⟩
theorem g_c11_77 : g_gmE 11 (171, 221, 3, 10, false) := Or.inr ⟨by decide, g_j221, by decide +kernel, Or.inl ⟨rfl, g_in 1438 (by decide +kernel) rfl⟩⟩
theorem g_c11_78 : g_gmE 11 (172, 120, 4, 9, false) := Or.inr ⟨by decide, g_j120, by decide +kernel, Or.inl ⟨rfl, g_in 965 (by decide +kernel) rfl⟩⟩
theorem g_c11_79 : g_gmE 11 (176, 222, 4, 10, false) := Or.inr ⟨by decide, g_j222, by decide +kernel, Or.inl ⟨rfl, g_in 1442 (by decide +kernel) rfl⟩⟩
theorem g_c11_80 : g_gmE 11 (177, 121, 0, 9, false) := Or.inr ⟨by decide, g_j121, by decide +kernel, Or.inl ⟨rfl, g_in 982 (by decide +kernel) rfl⟩⟩
theorem g_c11_81 : g_gmE 11 (180, 223, 0, 10, false) := Or.inr ⟨by decide, g_j223, by decide +kernel, Or.inl ⟨rfl, g_in 1447 (by decide +kernel) rfl⟩⟩
theorem g_c11_82 : g_gmE 11 (181, 122, 1, 9, false) := Or.inr ⟨by decide, g_j122, by decide +kernel, Or.inl ⟨rfl, g_in 986 (by decide +kernel) rfl⟩⟩
theorem g_c11_83 : g_gmE 11 (184, 224, 1, 10, false) := Or.inr ⟨by decide, g_j224, by decide +kernel, Or.inl ⟨rfl, g_in 1451 (by decide +kernel) rfl⟩⟩
theorem g_c11 : ∀ q ∈ g_cl 11, g_gmE 11 q := List.forall_mem_cons.mpr ⟨g_c11_0, List.forall_mem_cons.mpr ⟨g_c11_1, List.forall_mem_cons.mpr ⟨g_c11_2, List.forall_mem_cons.mpr ⟨g_c11_3, List.forall_mem_cons.mpr ⟨g_c11_4, List.forall_mem_cons.mpr ⟨g_c11_5, List.forall_mem_cons.mpr ⟨g_c11_6, List.forall_mem_cons.mpr ⟨g_c11_7, List.forall_mem_cons.mpr ⟨g_c11_8, List.forall_mem_cons.mpr ⟨g_c11_9, List.forall_mem_cons.mpr ⟨g_c11_10, List.forall_mem_cons.mpr ⟨g_c11_11, List.forall_mem_cons.mpr ⟨g_c11_12, List.forall_mem_cons.mpr ⟨g_c11_13, List.forall_mem_cons.mpr ⟨g_c11_14, List.forall_mem_cons.mpr ⟨g_c11_15, List.forall_mem_cons.mpr ⟨g_c11_16, List.forall_mem_cons.mpr ⟨g_c11_17, List.forall_mem_cons.mpr ⟨g_c11_18, List.forall_mem_cons.mpr ⟨g_c11_19, List.forall_mem_cons.mpr ⟨g_c11_20, List.forall_mem_cons.mpr ⟨g_c11_21, List.forall_mem_cons.mpr ⟨g_c11_22, List.forall_mem_cons.mpr ⟨g_c11_23, List.forall_mem_cons.mpr ⟨g_c11_24, List.forall_mem_cons.mpr ⟨g_c11_25, List.forall_mem_cons.mpr ⟨g_c11_26, List.forall_mem_cons.mpr ⟨g_c11_27, List.forall_mem_cons.mpr ⟨g_c11_28, List.forall_mem_cons.mpr ⟨g_c11_29, List.forall_mem_cons.mpr ⟨g_c11_30, List.forall_mem_cons.mpr ⟨g_c11_31, List.forall_mem_cons.mpr ⟨g_c11_32, List.forall_mem_cons.mpr ⟨g_c11_33, List.forall_mem_cons.mpr ⟨g_c11_34, List.forall_mem_cons.mpr ⟨g_c11_35, List.forall_mem_cons.mpr ⟨g_c11_36, List.forall_mem_cons.mpr ⟨g_c11_37, List.forall_mem_cons.mpr ⟨g_c11_38, List.forall_mem_cons.mpr ⟨g_c11_39, List.forall_mem_cons.mpr ⟨g_c11_40, List.forall_mem_cons.mpr ⟨g_c11_41, List.forall_mem_cons.mpr ⟨g_c11_42, List.forall_mem_cons.mpr ⟨g_c11_43, List.forall_mem_cons.mpr ⟨g_c11_44, List.forall_mem_cons.mpr ⟨g_c11_45, List.forall_mem_cons.mpr ⟨g_c11_46, List.forall_mem_cons.mpr ⟨g_c11_47, List.forall_mem_cons.mpr ⟨g_c11_48, List.forall_mem_cons.mpr ⟨g_c11_49, List.forall_mem_cons.mpr ⟨g_c11_50, List.forall_mem_cons.mpr ⟨g_c11_51, List.forall_mem_cons.mpr ⟨g_c11_52, List.forall_mem_cons.mpr ⟨g_c11_53, List.forall_mem_cons.mpr ⟨g_c11_54, List.forall_mem_cons.mpr ⟨g_c11_55, List.forall_mem_cons.mpr ⟨g_c11_56, List.forall_mem_cons.mpr ⟨g_c11_57, List.forall_mem_cons.mpr ⟨g_c11_58, List.forall_mem_cons.mpr ⟨g_c11_59, List.forall_mem_cons.mpr ⟨g_c11_60, List.forall_mem_cons.mpr ⟨g_c11_61, List.forall_mem_cons.mpr ⟨g_c11_62, List.forall_mem_cons.mpr ⟨g_c11_63, List.forall_mem_cons.mpr ⟨g_c11_64, List.forall_mem_cons.mpr ⟨g_c11_65, List.forall_mem_cons.mpr ⟨g_c11_66, List.forall_mem_cons.mpr ⟨g_c11_67, List.forall_mem_cons.mpr ⟨g_c11_68, List.forall_mem_cons.mpr ⟨g_c11_69, List.forall_mem_cons.mpr ⟨g_c11_70, List.forall_mem_cons.mpr ⟨g_c11_71, List.forall_mem_cons.mpr ⟨g_c11_72, List.forall_mem_cons.mpr ⟨g_c11_73, List.forall_mem_cons.mpr ⟨g_c11_74, List.forall_mem_cons.mpr ⟨g_c11_75, List.forall_mem_cons.mpr ⟨g_c11_76, List.forall_mem_cons.mpr ⟨g_c11_77, List.forall_mem_cons.mpr ⟨g_c11_78, List.forall_mem_cons.mpr ⟨g_c11_79, List.forall_mem_cons.mpr ⟨g_c11_80, List.forall_mem_cons.mpr ⟨g_c11_81, List.forall_mem_cons.mpr ⟨g_c11_82, List.forall_mem_cons.mpr ⟨g_c11_83, fun _ h => absurd h List.not_mem_nil⟩⟩⟩⟩⟩⟩⟩⟩⟩⟩⟩⟩⟩⟩⟩⟩⟩⟩⟩⟩⟩⟩⟩⟩⟩⟩⟩⟩⟩⟩⟩⟩⟩⟩⟩⟩⟩⟩⟩⟩⟩⟩⟩⟩⟩⟩⟩⟩⟩⟩⟩⟩⟩⟩⟩⟩⟩⟩⟩⟩⟩⟩⟩⟩⟩⟩⟩⟩⟩⟩⟩⟩⟩⟩⟩⟩⟩⟩⟩⟩⟩⟩⟩⟩
theorem g_ca : ∀ c, ∀ q ∈ g_cl c, g_gmE c q
  | 0 => g_c0
  | 1 => g_c1
  | 2 => g_c2
  | 3 => g_c3
  | 4 => g_c4
  | 5 => g_c5
  | 6 => g_c6
  | 7 => g_c7
  | 8 => g_c8
  | 9 => g_c9
  | 10 => g_c10
  | 11 => g_c11
  | 12 => fun _ h => absurd h List.not_mem_nil
  | 13 => fun _ h => absurd h List.not_mem_nil
  | _ + 14 => fun _ h => absurd h List.not_mem_nil
theorem g_gm : e_gm g_P g_C g_Ts g_Ns := by
  intro k i f h
  have ho : (e_mth g_P k).1.cls = g_cn (g_meth k).2.2.1 := g_own k
  rw [ho]
  rcases g_ca _ _ (e_lk_mem (show e_lk (g_cl (g_meth k).2.2.1) i = some f from h)) with h1 | ⟨h0, ⟨w1, w2, w3, w4, w5⟩, h2, h3⟩
  · exact Or.inl h1
  · exact Or.inr ⟨h0, w1, w2, w3, w4, h2, h3, w5⟩
theorem g_G : e_GD g_P g_C g_Ts g_Ns := ⟨g_gc, g_gf, g_gk, g_gn, g_gv, g_ga, g_gm, g_gN⟩
