set_option maxHeartbeats 100000000 in
theorem g_case_429 {ns : Nat} (hns : ns ≤ 320) (s0 : h_S) (I0 : h_I s0) (j0 : d_tape s0 s0) (j1 : s0 64 4 = s0 98 16) (j2 : c_R true s0) (j3 : g_ti s0) (j4 : g_SH s0) (j5 : s0 90 2 = s0 98 29) (y3 : Int32) (b3 : Int) (hy3 : y3.toInt = b3) (hr : 0 ≤ b3 ∧ b3 + 5 ≤ ns) {Q : Option Value → h_S → Prop} (kk : ∀ τ, h_I τ → (d_tape τ τ) → (τ 64 4 = τ 98 16) → (c_R true τ) → (g_ti τ) → (g_SH τ) → (τ 90 2 = τ 98 29) → h_T g_P (g_Y ns) 225 1441 [(0, .ref 0), (1, .ref 9), (2, .ref 98), (3, .int y3)] [] τ Q) : h_T g_P (g_Y ns) 225 429 [(0, .ref 0), (1, .ref 9), (2, .ref 98), (3, .int y3)] [] s0 Q := by
  have F0_ : h_F (fun _ _ => true) s0 s0 := h_F.rf
  have j0_ := j0.2
  have i0 := tf_64_1 I0
  have i1 := tf_98_11 I0
  have i2 := tf_64_4 I0
  have i3 := tf_98_16 I0
  have i4 := tf_90_2 I0
  have i5 := tf_98_29 I0
  have i6 := tf_10_8 I0
  have i7 := tf_98_1 I0
  have j2_ := j2.sz
  refine h_aload_n (pc' := 430) rfl rfl rfl ?_
  refine h_aload_n (pc' := 431) rfl rfl rfl ?_
  refine h_iload_n (pc' := 432) rfl rfl rfl ?_
  refine h_iconst (pc' := 433) (x := (Int32.ofInt 1)) rfl rfl rfl ?_
  refine h_iadd (pc' := 434) rfl rfl hy3 ci_1 rfl (by omega) (by omega) (fun z1 hz1 => ?_)
  refine h_iald (pc' := 435) (v := s0 0 (b3 + 1)) rfl rfl rfl hz1 (by omega) (by omega) rfl (fun z2 hz2 => ?_)
  have tz2 := h_rgv hz2
  clear hz1
  refine h_aload_n (pc' := 436) rfl rfl rfl ?_
  refine h_iload_n (pc' := 437) rfl rfl rfl ?_
  refine h_iconst (pc' := 438) (x := (Int32.ofInt 2)) rfl rfl rfl ?_
  refine h_iadd (pc' := 439) rfl rfl hy3 ci_2 rfl (by omega) (by omega) (fun z3 hz3 => ?_)
  refine h_iald (pc' := 440) (v := s0 0 (b3 + 2)) rfl rfl rfl hz3 (by omega) (by omega) rfl (fun z4 hz4 => ?_)
  have tz4 := h_rgv hz4
  clear hz3
  refine h_call (sp := false) (pc' := 443) (M := [(0, .ref 9), (1, .int z2), (2, .int z4)]) rfl rfl rfl rfl rfl rfl rfl rfl ?_
  refine w_91_9 _ I0 z2 _ hz2 z4 _ hz4 (fun r5 br5 hr5 s6 Is6 Gs6 tr5 => h_Kv ?_)
  have Zs6 : ∀ i, s6 0 i = s0 0 i := fun i => (Gs6 0 i rfl).trans rfl
  have Fs6 : h_F (fun _ _ => true) s6 s0 := fun _ _ h => by cases h
  have es6_0 : s6 64 1 = s0 64 1 := (Gs6 64 1 rfl).trans rfl
  have es6_1 : s6 98 11 = s0 98 11 := (Gs6 98 11 rfl).trans rfl
  have es6_2 : s6 64 4 = s0 64 4 := (Gs6 64 4 rfl).trans rfl
  have es6_3 : s6 98 16 = s0 98 16 := (Gs6 98 16 rfl).trans rfl
  have es6_4 : s6 90 2 = s0 90 2 := (Gs6 90 2 rfl).trans rfl
  have es6_5 : s6 98 29 = s0 98 29 := (Gs6 98 29 rfl).trans rfl
  have es6_6 : s6 10 8 = s0 10 8 := (Gs6 10 8 rfl).trans rfl
  have es6_7 : s6 98 1 = s0 98 1 := (Gs6 98 1 rfl).trans rfl
  clear hz2 hz4
  refine h_pop (pc' := 444) rfl rfl rfl ?_
  clear hr5
  refine h_aload_n (pc' := 445) rfl rfl rfl ?_
  refine h_aload_n (pc' := 446) rfl rfl rfl ?_
  refine h_iload_n (pc' := 447) rfl rfl rfl ?_
  refine h_iconst (pc' := 448) (x := (Int32.ofInt 1)) rfl rfl rfl ?_
  refine h_iadd (pc' := 449) rfl rfl hy3 ci_1 rfl (by omega) (by omega) (fun z7 hz7 => ?_)
  refine h_iald (pc' := 450) (v := s0 0 (b3 + 1)) rfl rfl rfl hz7 (by omega) (by omega) (Zs6 _) (fun z8 hz8 => ?_)
  have tz8 := h_rgv hz8
  clear hz7
  refine h_aload_n (pc' := 451) rfl rfl rfl ?_
  refine h_iload_n (pc' := 452) rfl rfl rfl ?_
  refine h_iconst (pc' := 453) (x := (Int32.ofInt 2)) rfl rfl rfl ?_
  refine h_iadd (pc' := 454) rfl rfl hy3 ci_2 rfl (by omega) (by omega) (fun z9 hz9 => ?_)
  refine h_iald (pc' := 455) (v := s0 0 (b3 + 2)) rfl rfl rfl hz9 (by omega) (by omega) (Zs6 _) (fun z10 hz10 => ?_)
  have tz10 := h_rgv hz10
  clear hz9
  refine h_call (sp := false) (pc' := 458) (M := [(0, .ref 98), (1, .int z8), (2, .int z10)]) rfl rfl rfl rfl rfl rfl rfl rfl ?_
  refine w_175_98 _ Is6 z8 _ hz8 z10 _ hz10 (fun r11 br11 hr11 s12 Is12 Gs12 tr11 => h_Kv ?_)
  have Zs12 : ∀ i, s12 0 i = s0 0 i := fun i => (Gs12 0 i rfl).trans (Zs6 i)
  have Fs12 : h_F (fun _ _ => true) s12 s0 := fun _ _ h => by cases h
  have es12_0 : s12 64 1 = s0 64 1 := (Gs12 64 1 rfl).trans es6_0
  have es12_1 : s12 98 11 = s0 98 11 := (Gs12 98 11 rfl).trans es6_1
  have es12_2 : s12 64 4 = s0 64 4 := (Gs12 64 4 rfl).trans es6_2
  have es12_3 : s12 98 16 = s0 98 16 := (Gs12 98 16 rfl).trans es6_3
  have es12_4 : s12 90 2 = s0 90 2 := (Gs12 90 2 rfl).trans es6_4
  have es12_5 : s12 98 29 = s0 98 29 := (Gs12 98 29 rfl).trans es6_5
  have es12_6 : s12 10 8 = s0 10 8 := (Gs12 10 8 rfl).trans es6_6
  have es12_7 : s12 98 1 = s0 98 1 := (Gs12 98 1 rfl).trans es6_7
  clear es6_0 es6_1 es6_2 es6_3 es6_4 es6_5 es6_6 es6_7
  clear hz10 hz8
  refine h_pop (pc' := 459) rfl rfl rfl ?_
  clear hr11
  refine h_goto (pc' := 1441) rfl rfl ?_
  exact kk _ Is12 (by first | exact d_tape.le j0 (Int.le_antisymm (by omega) (by omega)) (by omega) (fun j => (Gs12 65 j rfl).trans ((Gs6 65 j rfl))) (fun j => (Gs12 102 j rfl).trans ((Gs6 102 j rfl))) | (exfalso; omega)) (Int.le_antisymm (by omega) (by omega)) (c_R.fr (c_R.fr j2 I0 Gs6 rfl) Is6 Gs12 rfl) (g_ti.e j3 ((funext (fun j => Gs12 100 j rfl)).trans (funext (fun j => Gs6 100 j rfl)))) (g_SH.e j4 ((funext (fun j => Gs12 94 j rfl)).trans (funext (fun j => Gs6 94 j rfl))) ((funext (fun j => Gs12 95 j rfl)).trans (funext (fun j => Gs6 95 j rfl))) ((funext (fun j => Gs12 96 j rfl)).trans (funext (fun j => Gs6 96 j rfl))) ((funext (fun j => Gs12 111 j rfl)).trans (funext (fun j => Gs6 111 j rfl))) ((funext (fun j => Gs12 112 j rfl)).trans (funext (fun j => Gs6 112 j rfl))) ((funext (fun j => Gs12 113 j rfl)).trans (funext (fun j => Gs6 113 j rfl)))) (Int.le_antisymm (by omega) (by omega))
set_option maxHeartbeats 100000000 in
theorem g_case_462 {ns : Nat} (hns : ns ≤ 320) (s0 : h_S) (I0 : h_I s0) (j0 : d_tape s0 s0) (j1 : s0 64 4 = s0 98 16) (j2 : c_R true s0) (j3 : g_ti s0) (j4 : g_SH s0) (j5 : s0 90 2 = s0 98 29) (y3 : Int32) (b3 : Int) (hy3 : y3.toInt = b3) (hr : 0 ≤ b3 ∧ b3 + 5 ≤ ns) {Q : Option Value → h_S → Prop} (kk : ∀ τ, h_I τ → (d_tape τ τ) → (τ 64 4 = τ 98 16) → (c_R true τ) → (g_ti τ) → (g_SH τ) → (τ 90 2 = τ 98 29) → h_T g_P (g_Y ns) 225 1441 [(0, .ref 0), (1, .ref 9), (2, .ref 98), (3, .int y3)] [] τ Q) : h_T g_P (g_Y ns) 225 462 [(0, .ref 0), (1, .ref 9), (2, .ref 98), (3, .int y3)] [] s0 Q := by
  have F0_ : h_F (fun _ _ => true) s0 s0 := h_F.rf
  have j0_ := j0.2
  have i0 := tf_64_1 I0
  have i1 := tf_98_11 I0
  have i2 := tf_64_4 I0
  have i3 := tf_98_16 I0
  have i4 := tf_90_2 I0
  have i5 := tf_98_29 I0
  have i6 := tf_10_8 I0
  have i7 := tf_98_1 I0
  have j2_ := j2.sz
  refine h_aload_n (pc' := 463) rfl rfl rfl ?_
  refine h_aload_n (pc' := 464) rfl rfl rfl ?_
  refine h_iload_n (pc' := 465) rfl rfl rfl ?_
  refine h_iconst (pc' := 466) (x := (Int32.ofInt 1)) rfl rfl rfl ?_
  refine h_iadd (pc' := 467) rfl rfl hy3 ci_1 rfl (by omega) (by omega) (fun z1 hz1 => ?_)
  refine h_iald (pc' := 468) (v := s0 0 (b3 + 1)) rfl rfl rfl hz1 (by omega) (by omega) rfl (fun z2 hz2 => ?_)
  have tz2 := h_rgv hz2
  clear hz1
  refine h_aload_n (pc' := 469) rfl rfl rfl ?_
  refine h_iload_n (pc' := 470) rfl rfl rfl ?_
  refine h_iconst (pc' := 471) (x := (Int32.ofInt 2)) rfl rfl rfl ?_
  refine h_iadd (pc' := 472) rfl rfl hy3 ci_2 rfl (by omega) (by omega) (fun z3 hz3 => ?_)
  refine h_iald (pc' := 473) (v := s0 0 (b3 + 2)) rfl rfl rfl hz3 (by omega) (by omega) rfl (fun z4 hz4 => ?_)
  have tz4 := h_rgv hz4
  clear hz3
  refine h_call (sp := false) (pc' := 476) (M := [(0, .ref 9), (1, .int z2), (2, .int z4)]) rfl rfl rfl rfl rfl rfl rfl rfl ?_
  refine w_92_9 _ I0 z2 _ hz2 z4 _ hz4 (fun r5 br5 hr5 s6 Is6 Gs6 tr5 => h_Kv ?_)
  have Zs6 : ∀ i, s6 0 i = s0 0 i := fun i => (Gs6 0 i rfl).trans rfl
  have Fs6 : h_F (fun _ _ => true) s6 s0 := fun _ _ h => by cases h
  have es6_0 : s6 64 1 = s0 64 1 := (Gs6 64 1 rfl).trans rfl
  have es6_1 : s6 98 11 = s0 98 11 := (Gs6 98 11 rfl).trans rfl
  have es6_2 : s6 64 4 = s0 64 4 := (Gs6 64 4 rfl).trans rfl
  have es6_3 : s6 98 16 = s0 98 16 := (Gs6 98 16 rfl).trans rfl
  have es6_4 : s6 90 2 = s0 90 2 := (Gs6 90 2 rfl).trans rfl
  have es6_5 : s6 98 29 = s0 98 29 := (Gs6 98 29 rfl).trans rfl
  have es6_6 : s6 10 8 = s0 10 8 := (Gs6 10 8 rfl).trans rfl
  have es6_7 : s6 98 1 = s0 98 1 := (Gs6 98 1 rfl).trans rfl
  clear hz2 hz4
  refine h_pop (pc' := 477) rfl rfl rfl ?_
  clear hr5
  refine h_aload_n (pc' := 478) rfl rfl rfl ?_
  refine h_aload_n (pc' := 479) rfl rfl rfl ?_
  refine h_iload_n (pc' := 480) rfl rfl rfl ?_
  refine h_iconst (pc' := 481) (x := (Int32.ofInt 1)) rfl rfl rfl ?_
  refine h_iadd (pc' := 482) rfl rfl hy3 ci_1 rfl (by omega) (by omega) (fun z7 hz7 => ?_)
  refine h_iald (pc' := 483) (v := s0 0 (b3 + 1)) rfl rfl rfl hz7 (by omega) (by omega) (Zs6 _) (fun z8 hz8 => ?_)
  have tz8 := h_rgv hz8
  clear hz7
  refine h_aload_n (pc' := 484) rfl rfl rfl ?_
  refine h_iload_n (pc' := 485) rfl rfl rfl ?_
  refine h_iconst (pc' := 486) (x := (Int32.ofInt 2)) rfl rfl rfl ?_
  refine h_iadd (pc' := 487) rfl rfl hy3 ci_2 rfl (by omega) (by omega) (fun z9 hz9 => ?_)
  refine h_iald (pc' := 488) (v := s0 0 (b3 + 2)) rfl rfl rfl hz9 (by omega) (by omega) (Zs6 _) (fun z10 hz10 => ?_)
  have tz10 := h_rgv hz10
  clear hz9
  refine h_call (sp := false) (pc' := 491) (M := [(0, .ref 98), (1, .int z8), (2, .int z10)]) rfl rfl rfl rfl rfl rfl rfl rfl ?_
  refine w_177_98 _ Is6 z8 _ hz8 z10 _ hz10 (fun r11 br11 hr11 s12 Is12 Gs12 tr11 => h_Kv ?_)
  have Zs12 : ∀ i, s12 0 i = s0 0 i := fun i => (Gs12 0 i rfl).trans (Zs6 i)
  have Fs12 : h_F (fun _ _ => true) s12 s0 := fun _ _ h => by cases h
  have es12_0 : s12 64 1 = s0 64 1 := (Gs12 64 1 rfl).trans es6_0
  have es12_1 : s12 98 11 = s0 98 11 := (Gs12 98 11 rfl).trans es6_1
  have es12_2 : s12 64 4 = s0 64 4 := (Gs12 64 4 rfl).trans es6_2
  have es12_3 : s12 98 16 = s0 98 16 := (Gs12 98 16 rfl).trans es6_3
  have es12_4 : s12 90 2 = s0 90 2 := (Gs12 90 2 rfl).trans es6_4
  have es12_5 : s12 98 29 = s0 98 29 := (Gs12 98 29 rfl).trans es6_5
  have es12_6 : s12 10 8 = s0 10 8 := (Gs12 10 8 rfl).trans es6_6
  have es12_7 : s12 98 1 = s0 98 1 := (Gs12 98 1 rfl).trans es6_7
  clear es6_0 es6_1 es6_2 es6_3 es6_4 es6_5 es6_6 es6_7
  clear hz10 hz8
  refine h_pop (pc' := 492) rfl rfl rfl ?_
  clear hr11
  refine h_goto (pc' := 1441) rfl rfl ?_
  exact kk _ Is12 (by first | exact d_tape.le j0 (Int.le_antisymm (by omega) (by omega)) (by omega) (fun j => (Gs12 65 j rfl).trans ((Gs6 65 j rfl))) (fun j => (Gs12 102 j rfl).trans ((Gs6 102 j rfl))) | (exfalso; omega)) (Int.le_antisymm (by omega) (by omega)) (c_R.fr (c_R.fr j2 I0 Gs6 rfl) Is6 Gs12 rfl) (g_ti.e j3 ((funext (fun j => Gs12 100 j rfl)).trans (funext (fun j => Gs6 100 j rfl)))) (g_SH.e j4 ((funext (fun j => Gs12 94 j rfl)).trans (funext (fun j => Gs6 94 j rfl))) ((funext (fun j => Gs12 95 j rfl)).trans (funext (fun j => Gs6 95 j rfl))) ((funext (fun j => Gs12 96 j rfl)).trans (funext (fun j => Gs6 96 j rfl))) ((funext (fun j => Gs12 111 j rfl)).trans (funext (fun j => Gs6 111 j rfl))) ((funext (fun j => Gs12 112 j rfl)).trans (funext (fun j => Gs6 112 j rfl))) ((funext (fun j => Gs12 113 j rfl)).trans (funext (fun j => Gs6 113 j rfl)))) (Int.le_antisymm (by omega) (by omega))
