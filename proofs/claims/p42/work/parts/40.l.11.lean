set_option maxHeartbeats 100000000 in
theorem g_case_759 {ns : Nat} (hns : ns ≤ 320) (s0 : h_S) (I0 : h_I s0) (j0 : d_tape s0 s0) (j1 : s0 64 4 = s0 98 16) (j2 : c_R true s0) (j3 : g_ti s0) (j4 : g_SH s0) (j5 : s0 90 2 = s0 98 29) (y3 : Int32) (b3 : Int) (hy3 : y3.toInt = b3) (hr : 0 ≤ b3 ∧ b3 + 5 ≤ ns) {Q : Option Value → h_S → Prop} (kk : ∀ τ, h_I τ → (d_tape τ τ) → (τ 64 4 = τ 98 16) → (c_R true τ) → (g_ti τ) → (g_SH τ) → (τ 90 2 = τ 98 29) → h_T g_P (g_Y ns) 225 1441 [(0, .ref 0), (1, .ref 9), (2, .ref 98), (3, .int y3)] [] τ Q) : h_T g_P (g_Y ns) 225 759 [(0, .ref 0), (1, .ref 9), (2, .ref 98), (3, .int y3)] [] s0 Q := by
  have F0_ : h_F (fun _ _ => true) s0 s0 := h_F.rf
  have j0_ := j0.2
  have i0 := tf_64_1 I0
  have i1 := tf_98_11 I0
  have i2 := tf_64_4 I0
  have i3 := tf_98_16 I0
  have i4 := tf_90_2 I0
  have i5 := tf_98_29 I0
  refine h_aload_n (pc' := 760) rfl rfl rfl ?_
  refine h_aload_n (pc' := 761) rfl rfl rfl ?_
  refine h_iload_n (pc' := 762) rfl rfl rfl ?_
  refine h_iconst (pc' := 763) (x := (Int32.ofInt 1)) rfl rfl rfl ?_
  refine h_iadd (pc' := 764) rfl rfl hy3 ci_1 rfl (by omega) (by omega) (fun z1 hz1 => ?_)
  refine h_iald (pc' := 765) (v := s0 0 (b3 + 1)) rfl rfl rfl hz1 (by omega) (by omega) rfl (fun z2 hz2 => ?_)
  have tz2 := h_rgv hz2
  clear hz1
  refine h_call (sp := false) (pc' := 768) (M := [(0, .ref 9), (1, .int z2)]) rfl rfl rfl rfl rfl rfl rfl rfl ?_
  refine w_101_9 _ I0 z2 _ hz2 (fun r3 br3 hr3 s4 Is4 Gs4 => h_Kv ?_)
  have Zs4 : ∀ i, s4 0 i = s0 0 i := fun i => (Gs4 0 i rfl).trans rfl
  have Fs4 : h_F (fun _ _ => true) s4 s0 := fun _ _ h => by cases h
  have es4_0 : s4 64 1 = s0 64 1 := (Gs4 64 1 rfl).trans rfl
  have es4_1 : s4 98 11 = s0 98 11 := (Gs4 98 11 rfl).trans rfl
  have es4_2 : s4 64 4 = s0 64 4 := (Gs4 64 4 rfl).trans rfl
  have es4_3 : s4 98 16 = s0 98 16 := (Gs4 98 16 rfl).trans rfl
  have es4_4 : s4 90 2 = s0 90 2 := (Gs4 90 2 rfl).trans rfl
  have es4_5 : s4 98 29 = s0 98 29 := (Gs4 98 29 rfl).trans rfl
  clear hz2
  refine h_pop (pc' := 769) rfl rfl rfl ?_
  clear hr3
  refine h_aload_n (pc' := 770) rfl rfl rfl ?_
  refine h_aload_n (pc' := 771) rfl rfl rfl ?_
  refine h_iload_n (pc' := 772) rfl rfl rfl ?_
  refine h_iconst (pc' := 773) (x := (Int32.ofInt 1)) rfl rfl rfl ?_
  refine h_iadd (pc' := 774) rfl rfl hy3 ci_1 rfl (by omega) (by omega) (fun z5 hz5 => ?_)
  refine h_iald (pc' := 775) (v := s0 0 (b3 + 1)) rfl rfl rfl hz5 (by omega) (by omega) (Zs4 _) (fun z6 hz6 => ?_)
  have tz6 := h_rgv hz6
  clear hz5
  refine h_call (sp := false) (pc' := 778) (M := [(0, .ref 98), (1, .int z6)]) rfl rfl rfl rfl rfl rfl rfl rfl ?_
  refine w_194_98 _ Is4 z6 _ hz6 (fun r7 br7 hr7 s8 Is8 Gs8 => h_Kv ?_)
  have Zs8 : ∀ i, s8 0 i = s0 0 i := fun i => (Gs8 0 i rfl).trans (Zs4 i)
  have Fs8 : h_F (fun _ _ => true) s8 s0 := fun _ _ h => by cases h
  have es8_0 : s8 64 1 = s0 64 1 := (Gs8 64 1 rfl).trans es4_0
  have es8_1 : s8 98 11 = s0 98 11 := (Gs8 98 11 rfl).trans es4_1
  have es8_2 : s8 64 4 = s0 64 4 := (Gs8 64 4 rfl).trans es4_2
  have es8_3 : s8 98 16 = s0 98 16 := (Gs8 98 16 rfl).trans es4_3
  have es8_4 : s8 90 2 = s0 90 2 := (Gs8 90 2 rfl).trans es4_4
  have es8_5 : s8 98 29 = s0 98 29 := (Gs8 98 29 rfl).trans es4_5
  clear es4_0 es4_1 es4_2 es4_3 es4_4 es4_5
  clear hz6
  refine h_pop (pc' := 779) rfl rfl rfl ?_
  clear hr7
  refine h_goto (pc' := 1441) rfl rfl ?_
  exact kk _ Is8 (by first | exact d_tape.le j0 (Int.le_antisymm (by omega) (by omega)) (by omega) (fun j => (Gs8 65 j rfl).trans ((Gs4 65 j rfl))) (fun j => (Gs8 102 j rfl).trans ((Gs4 102 j rfl))) | (exfalso; omega)) (Int.le_antisymm (by omega) (by omega)) (c_R.fr (c_R.fr j2 I0 Gs4 rfl) Is4 Gs8 rfl) (g_ti.e j3 ((funext (fun j => Gs8 100 j rfl)).trans (funext (fun j => Gs4 100 j rfl)))) (g_SH.e j4 ((funext (fun j => Gs8 94 j rfl)).trans (funext (fun j => Gs4 94 j rfl))) ((funext (fun j => Gs8 95 j rfl)).trans (funext (fun j => Gs4 95 j rfl))) ((funext (fun j => Gs8 96 j rfl)).trans (funext (fun j => Gs4 96 j rfl))) ((funext (fun j => Gs8 111 j rfl)).trans (funext (fun j => Gs4 111 j rfl))) ((funext (fun j => Gs8 112 j rfl)).trans (funext (fun j => Gs4 112 j rfl))) ((funext (fun j => Gs8 113 j rfl)).trans (funext (fun j => Gs4 113 j rfl)))) (Int.le_antisymm (by omega) (by omega))
set_option maxHeartbeats 100000000 in
theorem g_case_782 {ns : Nat} (hns : ns ≤ 320) (s0 : h_S) (I0 : h_I s0) (j0 : d_tape s0 s0) (j1 : s0 64 4 = s0 98 16) (j2 : c_R true s0) (j3 : g_ti s0) (j4 : g_SH s0) (j5 : s0 90 2 = s0 98 29) (y3 : Int32) (b3 : Int) (hy3 : y3.toInt = b3) (hr : 0 ≤ b3 ∧ b3 + 5 ≤ ns) {Q : Option Value → h_S → Prop} (kk : ∀ τ, h_I τ → (d_tape τ τ) → (τ 64 4 = τ 98 16) → (c_R true τ) → (g_ti τ) → (g_SH τ) → (τ 90 2 = τ 98 29) → h_T g_P (g_Y ns) 225 1441 [(0, .ref 0), (1, .ref 9), (2, .ref 98), (3, .int y3)] [] τ Q) : h_T g_P (g_Y ns) 225 782 [(0, .ref 0), (1, .ref 9), (2, .ref 98), (3, .int y3)] [] s0 Q := by
  have F0_ : h_F (fun _ _ => true) s0 s0 := h_F.rf
  have j0_ := j0.2
  have i0 := tf_64_1 I0
  have i1 := tf_98_11 I0
  have i2 := tf_64_4 I0
  have i3 := tf_98_16 I0
  have i4 := tf_90_2 I0
  have i5 := tf_98_29 I0
  have i6 := tf_10_9 I0
  have i7 := tf_98_2 I0
  have j2_ := j2.sz
  refine h_aload_n (pc' := 783) rfl rfl rfl ?_
  refine h_aload_n (pc' := 784) rfl rfl rfl ?_
  refine h_iload_n (pc' := 785) rfl rfl rfl ?_
  refine h_iconst (pc' := 786) (x := (Int32.ofInt 1)) rfl rfl rfl ?_
  refine h_iadd (pc' := 787) rfl rfl hy3 ci_1 rfl (by omega) (by omega) (fun z1 hz1 => ?_)
  refine h_iald (pc' := 788) (v := s0 0 (b3 + 1)) rfl rfl rfl hz1 (by omega) (by omega) rfl (fun z2 hz2 => ?_)
  have tz2 := h_rgv hz2
  clear hz1
  refine h_call (sp := false) (pc' := 791) (M := [(0, .ref 9), (1, .int z2)]) rfl rfl rfl rfl rfl rfl rfl rfl ?_
  refine w_102_9 _ I0 z2 _ hz2 (fun r3 br3 hr3 s4 Is4 Gs4 tr3 => h_Kv ?_)
  have Zs4 : ∀ i, s4 0 i = s0 0 i := fun i => (Gs4 0 i rfl).trans rfl
  have Fs4 : h_F (fun _ _ => true) s4 s0 := fun _ _ h => by cases h
  have es4_0 : s4 64 1 = s0 64 1 := (Gs4 64 1 rfl).trans rfl
  have es4_1 : s4 98 11 = s0 98 11 := (Gs4 98 11 rfl).trans rfl
  have es4_2 : s4 64 4 = s0 64 4 := (Gs4 64 4 rfl).trans rfl
  have es4_3 : s4 98 16 = s0 98 16 := (Gs4 98 16 rfl).trans rfl
  have es4_4 : s4 90 2 = s0 90 2 := (Gs4 90 2 rfl).trans rfl
  have es4_5 : s4 98 29 = s0 98 29 := (Gs4 98 29 rfl).trans rfl
  have es4_6 : s4 10 9 = s0 10 9 := (Gs4 10 9 rfl).trans rfl
  have es4_7 : s4 98 2 = s0 98 2 := (Gs4 98 2 rfl).trans rfl
  clear hz2
  refine h_pop (pc' := 792) rfl rfl rfl ?_
  clear hr3
  refine h_aload_n (pc' := 793) rfl rfl rfl ?_
  refine h_aload_n (pc' := 794) rfl rfl rfl ?_
  refine h_iload_n (pc' := 795) rfl rfl rfl ?_
  refine h_iconst (pc' := 796) (x := (Int32.ofInt 1)) rfl rfl rfl ?_
  refine h_iadd (pc' := 797) rfl rfl hy3 ci_1 rfl (by omega) (by omega) (fun z5 hz5 => ?_)
  refine h_iald (pc' := 798) (v := s0 0 (b3 + 1)) rfl rfl rfl hz5 (by omega) (by omega) (Zs4 _) (fun z6 hz6 => ?_)
  have tz6 := h_rgv hz6
  clear hz5
  refine h_call (sp := false) (pc' := 801) (M := [(0, .ref 98), (1, .int z6)]) rfl rfl rfl rfl rfl rfl rfl rfl ?_
  refine w_195_98 _ Is4 z6 _ hz6 (fun r7 br7 hr7 s8 Is8 Gs8 tr7 => h_Kv ?_)
  have Zs8 : ∀ i, s8 0 i = s0 0 i := fun i => (Gs8 0 i rfl).trans (Zs4 i)
  have Fs8 : h_F (fun _ _ => true) s8 s0 := fun _ _ h => by cases h
  have es8_0 : s8 64 1 = s0 64 1 := (Gs8 64 1 rfl).trans es4_0
  have es8_1 : s8 98 11 = s0 98 11 := (Gs8 98 11 rfl).trans es4_1
  have es8_2 : s8 64 4 = s0 64 4 := (Gs8 64 4 rfl).trans es4_2
  have es8_3 : s8 98 16 = s0 98 16 := (Gs8 98 16 rfl).trans es4_3
  have es8_4 : s8 90 2 = s0 90 2 := (Gs8 90 2 rfl).trans es4_4
  have es8_5 : s8 98 29 = s0 98 29 := (Gs8 98 29 rfl).trans es4_5
  have es8_6 : s8 10 9 = s0 10 9 := (Gs8 10 9 rfl).trans es4_6
  have es8_7 : s8 98 2 = s0 98 2 := (Gs8 98 2 rfl).trans es4_7
  clear es4_0 es4_1 es4_2 es4_3 es4_4 es4_5 es4_6 es4_7
  clear hz6
  refine h_pop (pc' := 802) rfl rfl rfl ?_
  clear hr7
  refine h_goto (pc' := 1441) rfl rfl ?_
  exact kk _ Is8 (by first | exact d_tape.le j0 (Int.le_antisymm (by omega) (by omega)) (by omega) (fun j => (Gs8 65 j rfl).trans ((Gs4 65 j rfl))) (fun j => (Gs8 102 j rfl).trans ((Gs4 102 j rfl))) | (exfalso; omega)) (Int.le_antisymm (by omega) (by omega)) (c_R.fr (c_R.fr j2 I0 Gs4 rfl) Is4 Gs8 rfl) (g_ti.e j3 ((funext (fun j => Gs8 100 j rfl)).trans (funext (fun j => Gs4 100 j rfl)))) (g_SH.e j4 ((funext (fun j => Gs8 94 j rfl)).trans (funext (fun j => Gs4 94 j rfl))) ((funext (fun j => Gs8 95 j rfl)).trans (funext (fun j => Gs4 95 j rfl))) ((funext (fun j => Gs8 96 j rfl)).trans (funext (fun j => Gs4 96 j rfl))) ((funext (fun j => Gs8 111 j rfl)).trans (funext (fun j => Gs4 111 j rfl))) ((funext (fun j => Gs8 112 j rfl)).trans (funext (fun j => Gs4 112 j rfl))) ((funext (fun j => Gs8 113 j rfl)).trans (funext (fun j => Gs4 113 j rfl)))) (Int.le_antisymm (by omega) (by omega))
set_option maxHeartbeats 100000000 in
theorem g_case_805 {ns : Nat} (hns : ns ≤ 320) (s0 : h_S) (I0 : h_I s0) (j0 : d_tape s0 s0) (j1 : s0 64 4 = s0 98 16) (j2 : c_R true s0) (j3 : g_ti s0) (j4 : g_SH s0) (j5 : s0 90 2 = s0 98 29) (y3 : Int32) (b3 : Int) (hy3 : y3.toInt = b3) (hr : 0 ≤ b3 ∧ b3 + 5 ≤ ns) {Q : Option Value → h_S → Prop} (kk : ∀ τ, h_I τ → (d_tape τ τ) → (τ 64 4 = τ 98 16) → (c_R true τ) → (g_ti τ) → (g_SH τ) → (τ 90 2 = τ 98 29) → h_T g_P (g_Y ns) 225 1441 [(0, .ref 0), (1, .ref 9), (2, .ref 98), (3, .int y3)] [] τ Q) : h_T g_P (g_Y ns) 225 805 [(0, .ref 0), (1, .ref 9), (2, .ref 98), (3, .int y3)] [] s0 Q := by
  have F0_ : h_F (fun _ _ => true) s0 s0 := h_F.rf
  have j0_ := j0.2
  have i0 := tf_64_1 I0
  have i1 := tf_98_11 I0
  have i2 := tf_64_4 I0
  have i3 := tf_98_16 I0
  have i4 := tf_90_2 I0
  have i5 := tf_98_29 I0
  refine h_aload_n (pc' := 806) rfl rfl rfl ?_
  refine h_aload_n (pc' := 807) rfl rfl rfl ?_
  refine h_iload_n (pc' := 808) rfl rfl rfl ?_
  refine h_iconst (pc' := 809) (x := (Int32.ofInt 1)) rfl rfl rfl ?_
  refine h_iadd (pc' := 810) rfl rfl hy3 ci_1 rfl (by omega) (by omega) (fun z1 hz1 => ?_)
  refine h_iald (pc' := 811) (v := s0 0 (b3 + 1)) rfl rfl rfl hz1 (by omega) (by omega) rfl (fun z2 hz2 => ?_)
  have tz2 := h_rgv hz2
  clear hz1
  refine h_aload_n (pc' := 812) rfl rfl rfl ?_
  refine h_iload_n (pc' := 813) rfl rfl rfl ?_
  refine h_iconst (pc' := 814) (x := (Int32.ofInt 2)) rfl rfl rfl ?_
  refine h_iadd (pc' := 815) rfl rfl hy3 ci_2 rfl (by omega) (by omega) (fun z3 hz3 => ?_)
  refine h_iald (pc' := 816) (v := s0 0 (b3 + 2)) rfl rfl rfl hz3 (by omega) (by omega) rfl (fun z4 hz4 => ?_)
  have tz4 := h_rgv hz4
  clear hz3
  refine h_call (sp := false) (pc' := 819) (M := [(0, .ref 9), (1, .int z2), (2, .int z4)]) rfl rfl rfl rfl rfl rfl rfl rfl ?_
  refine w_103_9 _ I0 z2 _ hz2 z4 _ hz4 (fun r5 br5 hr5 s6 Is6 Gs6 => h_Kv ?_)
  have Zs6 : ∀ i, s6 0 i = s0 0 i := fun i => (Gs6 0 i rfl).trans rfl
  have Fs6 : h_F (fun _ _ => true) s6 s0 := fun _ _ h => by cases h
  have es6_0 : s6 64 1 = s0 64 1 := (Gs6 64 1 rfl).trans rfl
  have es6_1 : s6 98 11 = s0 98 11 := (Gs6 98 11 rfl).trans rfl
  have es6_2 : s6 64 4 = s0 64 4 := (Gs6 64 4 rfl).trans rfl
  have es6_3 : s6 98 16 = s0 98 16 := (Gs6 98 16 rfl).trans rfl
  have es6_4 : s6 90 2 = s0 90 2 := (Gs6 90 2 rfl).trans rfl
  have es6_5 : s6 98 29 = s0 98 29 := (Gs6 98 29 rfl).trans rfl
  clear hz2 hz4
  refine h_pop (pc' := 820) rfl rfl rfl ?_
  clear hr5
  refine h_aload_n (pc' := 821) rfl rfl rfl ?_
  refine h_aload_n (pc' := 822) rfl rfl rfl ?_
  refine h_iload_n (pc' := 823) rfl rfl rfl ?_
  refine h_iconst (pc' := 824) (x := (Int32.ofInt 1)) rfl rfl rfl ?_
  refine h_iadd (pc' := 825) rfl rfl hy3 ci_1 rfl (by omega) (by omega) (fun z7 hz7 => ?_)
  refine h_iald (pc' := 826) (v := s0 0 (b3 + 1)) rfl rfl rfl hz7 (by omega) (by omega) (Zs6 _) (fun z8 hz8 => ?_)
  have tz8 := h_rgv hz8
  clear hz7
  refine h_aload_n (pc' := 827) rfl rfl rfl ?_
  refine h_iload_n (pc' := 828) rfl rfl rfl ?_
  refine h_iconst (pc' := 829) (x := (Int32.ofInt 2)) rfl rfl rfl ?_
  refine h_iadd (pc' := 830) rfl rfl hy3 ci_2 rfl (by omega) (by omega) (fun z9 hz9 => ?_)
  refine h_iald (pc' := 831) (v := s0 0 (b3 + 2)) rfl rfl rfl hz9 (by omega) (by omega) (Zs6 _) (fun z10 hz10 => ?_)
  have tz10 := h_rgv hz10
  clear hz9
  refine h_call (sp := false) (pc' := 834) (M := [(0, .ref 98), (1, .int z8), (2, .int z10)]) rfl rfl rfl rfl rfl rfl rfl rfl ?_
  refine w_199_98 _ Is6 z8 _ hz8 z10 _ hz10 (fun r11 br11 hr11 s12 Is12 Gs12 => h_Kv ?_)
  have Zs12 : ∀ i, s12 0 i = s0 0 i := fun i => (Gs12 0 i rfl).trans (Zs6 i)
  have Fs12 : h_F (fun _ _ => true) s12 s0 := fun _ _ h => by cases h
  have es12_0 : s12 64 1 = s0 64 1 := (Gs12 64 1 rfl).trans es6_0
  have es12_1 : s12 98 11 = s0 98 11 := (Gs12 98 11 rfl).trans es6_1
  have es12_2 : s12 64 4 = s0 64 4 := (Gs12 64 4 rfl).trans es6_2
  have es12_3 : s12 98 16 = s0 98 16 := (Gs12 98 16 rfl).trans es6_3
  have es12_4 : s12 90 2 = s0 90 2 := (Gs12 90 2 rfl).trans es6_4
  have es12_5 : s12 98 29 = s0 98 29 := (Gs12 98 29 rfl).trans es6_5
  clear es6_0 es6_1 es6_2 es6_3 es6_4 es6_5
  clear hz10 hz8
  refine h_pop (pc' := 835) rfl rfl rfl ?_
  clear hr11
  refine h_goto (pc' := 1441) rfl rfl ?_
  exact kk _ Is12 (by first | exact d_tape.le j0 (Int.le_antisymm (by omega) (by omega)) (by omega) (fun j => (Gs12 65 j rfl).trans ((Gs6 65 j rfl))) (fun j => (Gs12 102 j rfl).trans ((Gs6 102 j rfl))) | (exfalso; omega)) (Int.le_antisymm (by omega) (by omega)) (c_R.fr (c_R.fr j2 I0 Gs6 rfl) Is6 Gs12 rfl) (g_ti.e j3 ((funext (fun j => Gs12 100 j rfl)).trans (funext (fun j => Gs6 100 j rfl)))) (g_SH.e j4 ((funext (fun j => Gs12 94 j rfl)).trans (funext (fun j => Gs6 94 j rfl))) ((funext (fun j => Gs12 95 j rfl)).trans (funext (fun j => Gs6 95 j rfl))) ((funext (fun j => Gs12 96 j rfl)).trans (funext (fun j => Gs6 96 j rfl))) ((funext (fun j => Gs12 111 j rfl)).trans (funext (fun j => Gs6 111 j rfl))) ((funext (fun j => Gs12 112 j rfl)).trans (funext (fun j => Gs6 112 j rfl))) ((funext (fun j => Gs12 113 j rfl)).trans (funext (fun j => Gs6 113 j rfl)))) (Int.le_antisymm (by omega) (by omega))
set_option maxHeartbeats 100000000 in
theorem g_case_838 {ns : Nat} (hns : ns ≤ 320) (s0 : h_S) (I0 : h_I s0) (j0 : d_tape s0 s0) (j1 : s0 64 4 = s0 98 16) (j2 : c_R true s0) (j3 : g_ti s0) (j4 : g_SH s0) (j5 : s0 90 2 = s0 98 29) (y3 : Int32) (b3 : Int) (hy3 : y3.toInt = b3) (hr : 0 ≤ b3 ∧ b3 + 5 ≤ ns) {Q : Option Value → h_S → Prop} (kk : ∀ τ, h_I τ → (d_tape τ τ) → (τ 64 4 = τ 98 16) → (c_R true τ) → (g_ti τ) → (g_SH τ) → (τ 90 2 = τ 98 29) → h_T g_P (g_Y ns) 225 1441 [(0, .ref 0), (1, .ref 9), (2, .ref 98), (3, .int y3)] [] τ Q) : h_T g_P (g_Y ns) 225 838 [(0, .ref 0), (1, .ref 9), (2, .ref 98), (3, .int y3)] [] s0 Q := by
  have F0_ : h_F (fun _ _ => true) s0 s0 := h_F.rf
  have j0_ := j0.2
  have i0 := tf_64_1 I0
  have i1 := tf_98_11 I0
  have i2 := tf_64_4 I0
  have i3 := tf_98_16 I0
  have i4 := tf_90_2 I0
  have i5 := tf_98_29 I0
  refine h_aload_n (pc' := 839) rfl rfl rfl ?_
  refine h_aload_n (pc' := 840) rfl rfl rfl ?_
  refine h_iload_n (pc' := 841) rfl rfl rfl ?_
  refine h_iconst (pc' := 842) (x := (Int32.ofInt 1)) rfl rfl rfl ?_
  refine h_iadd (pc' := 843) rfl rfl hy3 ci_1 rfl (by omega) (by omega) (fun z1 hz1 => ?_)
  refine h_iald (pc' := 844) (v := s0 0 (b3 + 1)) rfl rfl rfl hz1 (by omega) (by omega) rfl (fun z2 hz2 => ?_)
  have tz2 := h_rgv hz2
  clear hz1
  refine h_aload_n (pc' := 845) rfl rfl rfl ?_
  refine h_iload_n (pc' := 846) rfl rfl rfl ?_
  refine h_iconst (pc' := 847) (x := (Int32.ofInt 2)) rfl rfl rfl ?_
  refine h_iadd (pc' := 848) rfl rfl hy3 ci_2 rfl (by omega) (by omega) (fun z3 hz3 => ?_)
  refine h_iald (pc' := 849) (v := s0 0 (b3 + 2)) rfl rfl rfl hz3 (by omega) (by omega) rfl (fun z4 hz4 => ?_)
  have tz4 := h_rgv hz4
  clear hz3
  refine h_aload_n (pc' := 850) rfl rfl rfl ?_
  refine h_iload_n (pc' := 851) rfl rfl rfl ?_
  refine h_iconst (pc' := 852) (x := (Int32.ofInt 3)) rfl rfl rfl ?_
  refine h_iadd (pc' := 853) rfl rfl hy3 ci_3 rfl (by omega) (by omega) (fun z5 hz5 => ?_)
  refine h_iald (pc' := 854) (v := s0 0 (b3 + 3)) rfl rfl rfl hz5 (by omega) (by omega) rfl (fun z6 hz6 => ?_)
  have tz6 := h_rgv hz6
  clear hz5
  refine h_call (sp := false) (pc' := 857) (M := [(0, .ref 9), (1, .int z2), (2, .int z4), (3, .int z6)]) rfl rfl rfl rfl rfl rfl rfl rfl ?_
  refine w_104_9 _ I0 z2 _ hz2 z4 _ hz4 z6 _ hz6 (fun r7 br7 hr7 s8 Is8 Gs8 tr7 => h_Kv ?_)
  have Zs8 : ∀ i, s8 0 i = s0 0 i := fun i => (Gs8 0 i rfl).trans rfl
  have Fs8 : h_F (fun _ _ => true) s8 s0 := fun _ _ h => by cases h
  have es8_0 : s8 64 1 = s0 64 1 := (Gs8 64 1 rfl).trans rfl
  have es8_1 : s8 98 11 = s0 98 11 := (Gs8 98 11 rfl).trans rfl
  have es8_2 : s8 64 4 = s0 64 4 := (Gs8 64 4 rfl).trans rfl
  have es8_3 : s8 98 16 = s0 98 16 := (Gs8 98 16 rfl).trans rfl
  have es8_4 : s8 90 2 = s0 90 2 := (Gs8 90 2 rfl).trans rfl
  have es8_5 : s8 98 29 = s0 98 29 := (Gs8 98 29 rfl).trans rfl
  clear hz2 hz4 hz6
  refine h_pop (pc' := 858) rfl rfl rfl ?_
  clear hr7
  refine h_aload_n (pc' := 859) rfl rfl rfl ?_
  refine h_aload_n (pc' := 860) rfl rfl rfl ?_
  refine h_iload_n (pc' := 861) rfl rfl rfl ?_
  refine h_iconst (pc' := 862) (x := (Int32.ofInt 1)) rfl rfl rfl ?_
  refine h_iadd (pc' := 863) rfl rfl hy3 ci_1 rfl (by omega) (by omega) (fun z9 hz9 => ?_)
  refine h_iald (pc' := 864) (v := s0 0 (b3 + 1)) rfl rfl rfl hz9 (by omega) (by omega) (Zs8 _) (fun z10 hz10 => ?_)
  have tz10 := h_rgv hz10
  clear hz9
  refine h_aload_n (pc' := 865) rfl rfl rfl ?_
  refine h_iload_n (pc' := 866) rfl rfl rfl ?_
  refine h_iconst (pc' := 867) (x := (Int32.ofInt 2)) rfl rfl rfl ?_
  refine h_iadd (pc' := 868) rfl rfl hy3 ci_2 rfl (by omega) (by omega) (fun z11 hz11 => ?_)
  refine h_iald (pc' := 869) (v := s0 0 (b3 + 2)) rfl rfl rfl hz11 (by omega) (by omega) (Zs8 _) (fun z12 hz12 => ?_)
  have tz12 := h_rgv hz12
  clear hz11
  refine h_aload_n (pc' := 870) rfl rfl rfl ?_
  refine h_iload_n (pc' := 871) rfl rfl rfl ?_
  refine h_iconst (pc' := 872) (x := (Int32.ofInt 3)) rfl rfl rfl ?_
  refine h_iadd (pc' := 873) rfl rfl hy3 ci_3 rfl (by omega) (by omega) (fun z13 hz13 => ?_)
  refine h_iald (pc' := 874) (v := s0 0 (b3 + 3)) rfl rfl rfl hz13 (by omega) (by omega) (Zs8 _) (fun z14 hz14 => ?_)
  have tz14 := h_rgv hz14
  clear hz13
  refine h_call (sp := false) (pc' := 877) (M := [(0, .ref 98), (1, .int z10), (2, .int z12), (3, .int z14)]) rfl rfl rfl rfl rfl rfl rfl rfl ?_
  refine w_201_98 _ Is8 z10 _ hz10 z12 _ hz12 z14 _ hz14 (fun r15 br15 hr15 s16 Is16 Gs16 tr15 => h_Kv ?_)
  have Zs16 : ∀ i, s16 0 i = s0 0 i := fun i => (Gs16 0 i rfl).trans (Zs8 i)
  have Fs16 : h_F (fun _ _ => true) s16 s0 := fun _ _ h => by cases h
  have es16_0 : s16 64 1 = s0 64 1 := (Gs16 64 1 rfl).trans es8_0
  have es16_1 : s16 98 11 = s0 98 11 := (Gs16 98 11 rfl).trans es8_1
  have es16_2 : s16 64 4 = s0 64 4 := (Gs16 64 4 rfl).trans es8_2
  have es16_3 : s16 98 16 = s0 98 16 := (Gs16 98 16 rfl).trans es8_3
  have es16_4 : s16 90 2 = s0 90 2 := (Gs16 90 2 rfl).trans es8_4
  have es16_5 : s16 98 29 = s0 98 29 := (Gs16 98 29 rfl).trans es8_5
  clear es8_0 es8_1 es8_2 es8_3 es8_4 es8_5
  clear hz10 hz12 hz14
  refine h_pop (pc' := 878) rfl rfl rfl ?_
  clear hr15
  refine h_goto (pc' := 1441) rfl rfl ?_
  exact kk _ Is16 (by first | exact d_tape.le j0 (Int.le_antisymm (by omega) (by omega)) (by omega) (fun j => (Gs16 65 j rfl).trans ((Gs8 65 j rfl))) (fun j => (Gs16 102 j rfl).trans ((Gs8 102 j rfl))) | (exfalso; omega)) (Int.le_antisymm (by omega) (by omega)) (c_R.fr (c_R.fr j2 I0 Gs8 rfl) Is8 Gs16 rfl) (g_ti.e j3 ((funext (fun j => Gs16 100 j rfl)).trans (funext (fun j => Gs8 100 j rfl)))) (g_SH.e j4 ((funext (fun j => Gs16 94 j rfl)).trans (funext (fun j => Gs8 94 j rfl))) ((funext (fun j => Gs16 95 j rfl)).trans (funext (fun j => Gs8 95 j rfl))) ((funext (fun j => Gs16 96 j rfl)).trans (funext (fun j => Gs8 96 j rfl))) ((funext (fun j => Gs16 111 j rfl)).trans (funext (fun j => Gs8 111 j rfl))) ((funext (fun j => Gs16 112 j rfl)).trans (funext (fun j => Gs8 112 j rfl))) ((funext (fun j => Gs16 113 j rfl)).trans (funext (fun j => Gs8 113 j rfl)))) (Int.le_antisymm (by omega) (by omega))
set_option maxHeartbeats 100000000 in
theorem g_case_881 {ns : Nat} (hns : ns ≤ 320) (s0 : h_S) (I0 : h_I s0) (j0 : d_tape s0 s0) (j1 : s0 64 4 = s0 98 16) (j2 : c_R true s0) (j3 : g_ti s0) (j4 : g_SH s0) (j5 : s0 90 2 = s0 98 29) (y3 : Int32) (b3 : Int) (hy3 : y3.toInt = b3) (hr : 0 ≤ b3 ∧ b3 + 5 ≤ ns) {Q : Option Value → h_S → Prop} (kk : ∀ τ, h_I τ → (d_tape τ τ) → (τ 64 4 = τ 98 16) → (c_R true τ) → (g_ti τ) → (g_SH τ) → (τ 90 2 = τ 98 29) → h_T g_P (g_Y ns) 225 1441 [(0, .ref 0), (1, .ref 9), (2, .ref 98), (3, .int y3)] [] τ Q) : h_T g_P (g_Y ns) 225 881 [(0, .ref 0), (1, .ref 9), (2, .ref 98), (3, .int y3)] [] s0 Q := by
  have F0_ : h_F (fun _ _ => true) s0 s0 := h_F.rf
  have j0_ := j0.2
  have i0 := tf_64_1 I0
  have i1 := tf_98_11 I0
  have i2 := tf_64_4 I0
  have i3 := tf_98_16 I0
  have i4 := tf_90_2 I0
  have i5 := tf_98_29 I0
  refine h_aload_n (pc' := 882) rfl rfl rfl ?_
  refine h_aload_n (pc' := 883) rfl rfl rfl ?_
  refine h_iload_n (pc' := 884) rfl rfl rfl ?_
  refine h_iconst (pc' := 885) (x := (Int32.ofInt 1)) rfl rfl rfl ?_
  refine h_iadd (pc' := 886) rfl rfl hy3 ci_1 rfl (by omega) (by omega) (fun z1 hz1 => ?_)
  refine h_iald (pc' := 887) (v := s0 0 (b3 + 1)) rfl rfl rfl hz1 (by omega) (by omega) rfl (fun z2 hz2 => ?_)
  have tz2 := h_rgv hz2
  clear hz1
  refine h_aload_n (pc' := 888) rfl rfl rfl ?_
  refine h_iload_n (pc' := 889) rfl rfl rfl ?_
  refine h_iconst (pc' := 890) (x := (Int32.ofInt 2)) rfl rfl rfl ?_
  refine h_iadd (pc' := 891) rfl rfl hy3 ci_2 rfl (by omega) (by omega) (fun z3 hz3 => ?_)
  refine h_iald (pc' := 892) (v := s0 0 (b3 + 2)) rfl rfl rfl hz3 (by omega) (by omega) rfl (fun z4 hz4 => ?_)
  have tz4 := h_rgv hz4
  clear hz3
  refine h_call (sp := false) (pc' := 895) (M := [(0, .ref 9), (1, .int z2), (2, .int z4)]) rfl rfl rfl rfl rfl rfl rfl rfl ?_
  refine w_105_9 _ I0 z2 _ hz2 z4 _ hz4 (fun r5 br5 hr5 s6 Is6 Gs6 => h_Kv ?_)
  have Zs6 : ∀ i, s6 0 i = s0 0 i := fun i => (Gs6 0 i rfl).trans rfl
  have Fs6 : h_F (fun _ _ => true) s6 s0 := fun _ _ h => by cases h
  have es6_0 : s6 64 1 = s0 64 1 := (Gs6 64 1 rfl).trans rfl
  have es6_1 : s6 98 11 = s0 98 11 := (Gs6 98 11 rfl).trans rfl
  have es6_2 : s6 64 4 = s0 64 4 := (Gs6 64 4 rfl).trans rfl
  have es6_3 : s6 98 16 = s0 98 16 := (Gs6 98 16 rfl).trans rfl
  have es6_4 : s6 90 2 = s0 90 2 := (Gs6 90 2 rfl).trans rfl
  have es6_5 : s6 98 29 = s0 98 29 := (Gs6 98 29 rfl).trans rfl
  clear hz2 hz4
  refine h_pop (pc' := 896) rfl rfl rfl ?_
  clear hr5
  refine h_aload_n (pc' := 897) rfl rfl rfl ?_
  refine h_aload_n (pc' := 898) rfl rfl rfl ?_
  refine h_iload_n (pc' := 899) rfl rfl rfl ?_
  refine h_iconst (pc' := 900) (x := (Int32.ofInt 1)) rfl rfl rfl ?_
  refine h_iadd (pc' := 901) rfl rfl hy3 ci_1 rfl (by omega) (by omega) (fun z7 hz7 => ?_)
  refine h_iald (pc' := 902) (v := s0 0 (b3 + 1)) rfl rfl rfl hz7 (by omega) (by omega) (Zs6 _) (fun z8 hz8 => ?_)
  have tz8 := h_rgv hz8
  clear hz7
  refine h_aload_n (pc' := 903) rfl rfl rfl ?_
  refine h_iload_n (pc' := 904) rfl rfl rfl ?_
  refine h_iconst (pc' := 905) (x := (Int32.ofInt 2)) rfl rfl rfl ?_
  refine h_iadd (pc' := 906) rfl rfl hy3 ci_2 rfl (by omega) (by omega) (fun z9 hz9 => ?_)
  refine h_iald (pc' := 907) (v := s0 0 (b3 + 2)) rfl rfl rfl hz9 (by omega) (by omega) (Zs6 _) (fun z10 hz10 => ?_)
  have tz10 := h_rgv hz10
  clear hz9
  refine h_call (sp := false) (pc' := 910) (M := [(0, .ref 98), (1, .int z8), (2, .int z10)]) rfl rfl rfl rfl rfl rfl rfl rfl ?_
  refine n_match _ Is6 z8 _ hz8 z10 _ hz10 (fun r11 br11 hr11 s12 Is12 Gs12 tr11 ps12_0 => h_Kv ?_)
  have Zs12 : ∀ i, s12 0 i = s0 0 i := fun i => (Gs12 0 i rfl).trans (Zs6 i)
  have Fs12 : h_F (fun _ _ => true) s12 s0 := fun _ _ h => by cases h
  have es12_0 : s12 64 1 = s0 64 1 := (Gs12 64 1 rfl).trans es6_0
  have es12_1 : s12 98 11 = s0 98 11 := (Gs12 98 11 rfl).trans es6_1
  have es12_2 : s12 64 4 = s0 64 4 := (Gs12 64 4 rfl).trans es6_2
  have es12_3 : s12 98 16 = s0 98 16 := (Gs12 98 16 rfl).trans es6_3
  have es12_4 : s12 90 2 = s0 90 2 := (Gs12 90 2 rfl).trans es6_4
  have es12_5 : s12 98 29 = s0 98 29 := (Gs12 98 29 rfl).trans es6_5
  clear hz10 hz8
  refine h_pop (pc' := 911) rfl rfl rfl ?_
  clear hr11
  refine h_goto (pc' := 1441) rfl rfl ?_
  exact kk _ Is12 (by first | exact d_tape.le j0 (Int.le_antisymm (by omega) (by omega)) (by omega) (fun j => (Gs12 65 j rfl).trans ((Gs6 65 j rfl))) (fun j => (Gs12 102 j rfl).trans ((Gs6 102 j rfl))) | (exfalso; omega)) (Int.le_antisymm (by omega) (by omega)) (c_R.pag (c_R.fr j2 I0 Gs6 rfl) Is6 Gs12 ps12_0.wk rfl) (g_ti.e j3 ((funext (fun j => Gs12 100 j rfl)).trans (funext (fun j => Gs6 100 j rfl)))) (g_SH.e j4 ((funext (fun j => Gs12 94 j rfl)).trans (funext (fun j => Gs6 94 j rfl))) ((funext (fun j => Gs12 95 j rfl)).trans (funext (fun j => Gs6 95 j rfl))) ((funext (fun j => Gs12 96 j rfl)).trans (funext (fun j => Gs6 96 j rfl))) ((funext (fun j => Gs12 111 j rfl)).trans (funext (fun j => Gs6 111 j rfl))) ((funext (fun j => Gs12 112 j rfl)).trans (funext (fun j => Gs6 112 j rfl))) ((funext (fun j => Gs12 113 j rfl)).trans (funext (fun j => Gs6 113 j rfl)))) (Int.le_antisymm (by omega) (by omega))
set_option maxHeartbeats 100000000 in
theorem g_case_914 {ns : Nat} (hns : ns ≤ 320) (s0 : h_S) (I0 : h_I s0) (j0 : d_tape s0 s0) (j1 : s0 64 4 = s0 98 16) (j2 : c_R true s0) (j3 : g_ti s0) (j4 : g_SH s0) (j5 : s0 90 2 = s0 98 29) (y3 : Int32) (b3 : Int) (hy3 : y3.toInt = b3) (hr : 0 ≤ b3 ∧ b3 + 5 ≤ ns) {Q : Option Value → h_S → Prop} (kk : ∀ τ, h_I τ → (d_tape τ τ) → (τ 64 4 = τ 98 16) → (c_R true τ) → (g_ti τ) → (g_SH τ) → (τ 90 2 = τ 98 29) → h_T g_P (g_Y ns) 225 1441 [(0, .ref 0), (1, .ref 9), (2, .ref 98), (3, .int y3)] [] τ Q) : h_T g_P (g_Y ns) 225 914 [(0, .ref 0), (1, .ref 9), (2, .ref 98), (3, .int y3)] [] s0 Q := by
  have F0_ : h_F (fun _ _ => true) s0 s0 := h_F.rf
  have j0_ := j0.2
  have i0 := tf_64_1 I0
  have i1 := tf_98_11 I0
  have i2 := tf_64_4 I0
  have i3 := tf_98_16 I0
  have i4 := tf_90_2 I0
  have i5 := tf_98_29 I0
  refine h_aload_n (pc' := 915) rfl rfl rfl ?_
  refine h_call (sp := false) (pc' := 918) (M := [(0, .ref 9)]) rfl rfl rfl rfl rfl rfl rfl rfl ?_
  refine w_106_9 _ I0  (fun r1 br1 hr1 s2 Is2 Gs2 => h_Kv ?_)
  have Zs2 : ∀ i, s2 0 i = s0 0 i := fun i => (Gs2 0 i rfl).trans rfl
  have Fs2 : h_F (fun _ _ => true) s2 s0 := fun _ _ h => by cases h
  have es2_0 : s2 64 1 = s0 64 1 := (Gs2 64 1 rfl).trans rfl
  have es2_1 : s2 98 11 = s0 98 11 := (Gs2 98 11 rfl).trans rfl
  have es2_2 : s2 64 4 = s0 64 4 := (Gs2 64 4 rfl).trans rfl
  have es2_3 : s2 98 16 = s0 98 16 := (Gs2 98 16 rfl).trans rfl
  have es2_4 : s2 90 2 = s0 90 2 := (Gs2 90 2 rfl).trans rfl
  have es2_5 : s2 98 29 = s0 98 29 := (Gs2 98 29 rfl).trans rfl
  refine h_pop (pc' := 919) rfl rfl rfl ?_
  clear hr1
  refine h_aload_n (pc' := 920) rfl rfl rfl ?_
  refine h_call (sp := false) (pc' := 923) (M := [(0, .ref 98)]) rfl rfl rfl rfl rfl rfl rfl rfl ?_
  refine w_203_98 _ Is2  (fun r3 br3 hr3 s4 Is4 Gs4 => h_Kv ?_)
  have Zs4 : ∀ i, s4 0 i = s0 0 i := fun i => (Gs4 0 i rfl).trans (Zs2 i)
  have Fs4 : h_F (fun _ _ => true) s4 s0 := fun _ _ h => by cases h
  have es4_0 : s4 64 1 = s0 64 1 := (Gs4 64 1 rfl).trans es2_0
  have es4_1 : s4 98 11 = s0 98 11 := (Gs4 98 11 rfl).trans es2_1
  have es4_2 : s4 64 4 = s0 64 4 := (Gs4 64 4 rfl).trans es2_2
  have es4_3 : s4 98 16 = s0 98 16 := (Gs4 98 16 rfl).trans es2_3
  have es4_4 : s4 90 2 = s0 90 2 := (Gs4 90 2 rfl).trans es2_4
  have es4_5 : s4 98 29 = s0 98 29 := (Gs4 98 29 rfl).trans es2_5
  clear es2_0 es2_1 es2_2 es2_3 es2_4 es2_5
  refine h_pop (pc' := 924) rfl rfl rfl ?_
  clear hr3
  refine h_goto (pc' := 1441) rfl rfl ?_
  exact kk _ Is4 (by first | exact d_tape.le j0 (Int.le_antisymm (by omega) (by omega)) (by omega) (fun j => (Gs4 65 j rfl).trans ((Gs2 65 j rfl))) (fun j => (Gs4 102 j rfl).trans ((Gs2 102 j rfl))) | (exfalso; omega)) (Int.le_antisymm (by omega) (by omega)) (c_R.fr (c_R.fr j2 I0 Gs2 rfl) Is2 Gs4 rfl) (g_ti.e j3 ((funext (fun j => Gs4 100 j rfl)).trans (funext (fun j => Gs2 100 j rfl)))) (g_SH.e j4 ((funext (fun j => Gs4 94 j rfl)).trans (funext (fun j => Gs2 94 j rfl))) ((funext (fun j => Gs4 95 j rfl)).trans (funext (fun j => Gs2 95 j rfl))) ((funext (fun j => Gs4 96 j rfl)).trans (funext (fun j => Gs2 96 j rfl))) ((funext (fun j => Gs4 111 j rfl)).trans (funext (fun j => Gs2 111 j rfl))) ((funext (fun j => Gs4 112 j rfl)).trans (funext (fun j => Gs2 112 j rfl))) ((funext (fun j => Gs4 113 j rfl)).trans (funext (fun j => Gs2 113 j rfl)))) (Int.le_antisymm (by omega) (by omega))
set_option maxHeartbeats 100000000 in
theorem g_case_927 {ns : Nat} (hns : ns ≤ 320) (s0 : h_S) (I0 : h_I s0) (j0 : d_tape s0 s0) (j1 : s0 64 4 = s0 98 16) (j2 : c_R true s0) (j3 : g_ti s0) (j4 : g_SH s0) (j5 : s0 90 2 = s0 98 29) (y3 : Int32) (b3 : Int) (hy3 : y3.toInt = b3) (hr : 0 ≤ b3 ∧ b3 + 5 ≤ ns) {Q : Option Value → h_S → Prop} (kk : ∀ τ, h_I τ → (d_tape τ τ) → (τ 64 4 = τ 98 16) → (c_R true τ) → (g_ti τ) → (g_SH τ) → (τ 90 2 = τ 98 29) → h_T g_P (g_Y ns) 225 1441 [(0, .ref 0), (1, .ref 9), (2, .ref 98), (3, .int y3)] [] τ Q) : h_T g_P (g_Y ns) 225 927 [(0, .ref 0), (1, .ref 9), (2, .ref 98), (3, .int y3)] [] s0 Q := by
  have F0_ : h_F (fun _ _ => true) s0 s0 := h_F.rf
  have j0_ := j0.2
  have i0 := tf_64_1 I0
  have i1 := tf_98_11 I0
  have i2 := tf_64_4 I0
  have i3 := tf_98_16 I0
  have i4 := tf_90_2 I0
  have i5 := tf_98_29 I0
  have i6 := tf_10_8 I0
  have i7 := tf_98_1 I0
  have j2_ := j2.sz
  refine h_aload_n (pc' := 928) rfl rfl rfl ?_
  refine h_aload_n (pc' := 929) rfl rfl rfl ?_
  refine h_iload_n (pc' := 930) rfl rfl rfl ?_
  refine h_iconst (pc' := 931) (x := (Int32.ofInt 1)) rfl rfl rfl ?_
  refine h_iadd (pc' := 932) rfl rfl hy3 ci_1 rfl (by omega) (by omega) (fun z1 hz1 => ?_)
  refine h_iald (pc' := 933) (v := s0 0 (b3 + 1)) rfl rfl rfl hz1 (by omega) (by omega) rfl (fun z2 hz2 => ?_)
  have tz2 := h_rgv hz2
  clear hz1
  refine h_call (sp := false) (pc' := 936) (M := [(0, .ref 9), (1, .int z2)]) rfl rfl rfl rfl rfl rfl rfl rfl ?_
  refine w_107_9 _ I0 z2 _ hz2 (fun r3 br3 hr3 s4 Is4 Gs4 tr3 => h_Kv ?_)
  have Zs4 : ∀ i, s4 0 i = s0 0 i := fun i => (Gs4 0 i rfl).trans rfl
  have Fs4 : h_F (fun _ _ => true) s4 s0 := fun _ _ h => by cases h
  have es4_0 : s4 64 1 = s0 64 1 := (Gs4 64 1 rfl).trans rfl
  have es4_1 : s4 98 11 = s0 98 11 := (Gs4 98 11 rfl).trans rfl
  have es4_2 : s4 64 4 = s0 64 4 := (Gs4 64 4 rfl).trans rfl
  have es4_3 : s4 98 16 = s0 98 16 := (Gs4 98 16 rfl).trans rfl
  have es4_4 : s4 90 2 = s0 90 2 := (Gs4 90 2 rfl).trans rfl
  have es4_5 : s4 98 29 = s0 98 29 := (Gs4 98 29 rfl).trans rfl
  have es4_6 : s4 10 8 = s0 10 8 := (Gs4 10 8 rfl).trans rfl
  have es4_7 : s4 98 1 = s0 98 1 := (Gs4 98 1 rfl).trans rfl
  clear hz2
  refine h_pop (pc' := 937) rfl rfl rfl ?_
  clear hr3
  refine h_aload_n (pc' := 938) rfl rfl rfl ?_
  refine h_aload_n (pc' := 939) rfl rfl rfl ?_
  refine h_iload_n (pc' := 940) rfl rfl rfl ?_
  refine h_iconst (pc' := 941) (x := (Int32.ofInt 1)) rfl rfl rfl ?_
  refine h_iadd (pc' := 942) rfl rfl hy3 ci_1 rfl (by omega) (by omega) (fun z5 hz5 => ?_)
  refine h_iald (pc' := 943) (v := s0 0 (b3 + 1)) rfl rfl rfl hz5 (by omega) (by omega) (Zs4 _) (fun z6 hz6 => ?_)
  have tz6 := h_rgv hz6
  clear hz5
  refine h_call (sp := false) (pc' := 946) (M := [(0, .ref 98), (1, .int z6)]) rfl rfl rfl rfl rfl rfl rfl rfl ?_
  refine w_204_98 _ Is4 z6 _ hz6 (fun r7 br7 hr7 s8 Is8 Gs8 tr7 => h_Kv ?_)
  have Zs8 : ∀ i, s8 0 i = s0 0 i := fun i => (Gs8 0 i rfl).trans (Zs4 i)
  have Fs8 : h_F (fun _ _ => true) s8 s0 := fun _ _ h => by cases h
  have es8_0 : s8 64 1 = s0 64 1 := (Gs8 64 1 rfl).trans es4_0
  have es8_1 : s8 98 11 = s0 98 11 := (Gs8 98 11 rfl).trans es4_1
  have es8_2 : s8 64 4 = s0 64 4 := (Gs8 64 4 rfl).trans es4_2
  have es8_3 : s8 98 16 = s0 98 16 := (Gs8 98 16 rfl).trans es4_3
  have es8_4 : s8 90 2 = s0 90 2 := (Gs8 90 2 rfl).trans es4_4
  have es8_5 : s8 98 29 = s0 98 29 := (Gs8 98 29 rfl).trans es4_5
  have es8_6 : s8 10 8 = s0 10 8 := (Gs8 10 8 rfl).trans es4_6
  have es8_7 : s8 98 1 = s0 98 1 := (Gs8 98 1 rfl).trans es4_7
  clear es4_0 es4_1 es4_2 es4_3 es4_4 es4_5 es4_6 es4_7
  clear hz6
  refine h_pop (pc' := 947) rfl rfl rfl ?_
  clear hr7
  refine h_goto (pc' := 1441) rfl rfl ?_
  exact kk _ Is8 (by first | exact d_tape.le j0 (Int.le_antisymm (by omega) (by omega)) (by omega) (fun j => (Gs8 65 j rfl).trans ((Gs4 65 j rfl))) (fun j => (Gs8 102 j rfl).trans ((Gs4 102 j rfl))) | (exfalso; omega)) (Int.le_antisymm (by omega) (by omega)) (c_R.fr (c_R.fr j2 I0 Gs4 rfl) Is4 Gs8 rfl) (g_ti.e j3 ((funext (fun j => Gs8 100 j rfl)).trans (funext (fun j => Gs4 100 j rfl)))) (g_SH.e j4 ((funext (fun j => Gs8 94 j rfl)).trans (funext (fun j => Gs4 94 j rfl))) ((funext (fun j => Gs8 95 j rfl)).trans (funext (fun j => Gs4 95 j rfl))) ((funext (fun j => Gs8 96 j rfl)).trans (funext (fun j => Gs4 96 j rfl))) ((funext (fun j => Gs8 111 j rfl)).trans (funext (fun j => Gs4 111 j rfl))) ((funext (fun j => Gs8 112 j rfl)).trans (funext (fun j => Gs4 112 j rfl))) ((funext (fun j => Gs8 113 j rfl)).trans (funext (fun j => Gs4 113 j rfl)))) (Int.le_antisymm (by omega) (by omega))
