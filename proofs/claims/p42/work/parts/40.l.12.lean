set_option maxHeartbeats 100000000 in
theorem g_case_950 {ns : Nat} (hns : ns ≤ 320) (s0 : h_S) (I0 : h_I s0) (j0 : d_tape s0 s0) (j1 : s0 64 4 = s0 98 16) (j2 : c_R true s0) (j3 : g_ti s0) (j4 : g_SH s0) (j5 : s0 90 2 = s0 98 29) (y3 : Int32) (b3 : Int) (hy3 : y3.toInt = b3) (hr : 0 ≤ b3 ∧ b3 + 5 ≤ ns) {Q : Option Value → h_S → Prop} (kk : ∀ τ, h_I τ → (d_tape τ τ) → (τ 64 4 = τ 98 16) → (c_R true τ) → (g_ti τ) → (g_SH τ) → (τ 90 2 = τ 98 29) → h_T g_P (g_Y ns) 225 1441 [(0, .ref 0), (1, .ref 9), (2, .ref 98), (3, .int y3)] [] τ Q) : h_T g_P (g_Y ns) 225 950 [(0, .ref 0), (1, .ref 9), (2, .ref 98), (3, .int y3)] [] s0 Q := by
  have F0_ : h_F (fun _ _ => true) s0 s0 := h_F.rf
  have j0_ := j0.2
  have i0 := tf_64_1 I0
  have i1 := tf_98_11 I0
  have i2 := tf_64_4 I0
  have i3 := tf_98_16 I0
  have i4 := tf_90_2 I0
  have i5 := tf_98_29 I0
  refine h_aload_n (pc' := 951) rfl rfl rfl ?_
  refine h_aload_n (pc' := 952) rfl rfl rfl ?_
  refine h_iload_n (pc' := 953) rfl rfl rfl ?_
  refine h_iconst (pc' := 954) (x := (Int32.ofInt 1)) rfl rfl rfl ?_
  refine h_iadd (pc' := 955) rfl rfl hy3 ci_1 rfl (by omega) (by omega) (fun z1 hz1 => ?_)
  refine h_iald (pc' := 956) (v := s0 0 (b3 + 1)) rfl rfl rfl hz1 (by omega) (by omega) rfl (fun z2 hz2 => ?_)
  have tz2 := h_rgv hz2
  clear hz1
  refine h_aload_n (pc' := 957) rfl rfl rfl ?_
  refine h_iload_n (pc' := 958) rfl rfl rfl ?_
  refine h_iconst (pc' := 959) (x := (Int32.ofInt 2)) rfl rfl rfl ?_
  refine h_iadd (pc' := 960) rfl rfl hy3 ci_2 rfl (by omega) (by omega) (fun z3 hz3 => ?_)
  refine h_iald (pc' := 961) (v := s0 0 (b3 + 2)) rfl rfl rfl hz3 (by omega) (by omega) rfl (fun z4 hz4 => ?_)
  have tz4 := h_rgv hz4
  clear hz3
  refine h_call (sp := false) (pc' := 964) (M := [(0, .ref 9), (1, .int z2), (2, .int z4)]) rfl rfl rfl rfl rfl rfl rfl rfl ?_
  refine w_108_9 _ I0 z2 _ hz2 z4 _ hz4 (fun r5 s6 Is6 Gs6 => h_Kv ?_)
  have Zs6 : ∀ i, s6 0 i = s0 0 i := fun i => (Gs6 0 i rfl).trans rfl
  have Fs6 : h_F (fun _ _ => true) s6 s0 := fun _ _ h => by cases h
  have es6_0 : s6 64 1 = s0 64 1 := (Gs6 64 1 rfl).trans rfl
  have es6_1 : s6 98 11 = s0 98 11 := (Gs6 98 11 rfl).trans rfl
  have es6_2 : s6 64 4 = s0 64 4 := (Gs6 64 4 rfl).trans rfl
  have es6_3 : s6 98 16 = s0 98 16 := (Gs6 98 16 rfl).trans rfl
  have es6_4 : s6 90 2 = s0 90 2 := (Gs6 90 2 rfl).trans rfl
  have es6_5 : s6 98 29 = s0 98 29 := (Gs6 98 29 rfl).trans rfl
  clear hz2 hz4
  refine h_pop2 (pc' := 965) rfl rfl rfl ?_
  refine h_aload_n (pc' := 966) rfl rfl rfl ?_
  refine h_aload_n (pc' := 967) rfl rfl rfl ?_
  refine h_iload_n (pc' := 968) rfl rfl rfl ?_
  refine h_iconst (pc' := 969) (x := (Int32.ofInt 1)) rfl rfl rfl ?_
  refine h_iadd (pc' := 970) rfl rfl hy3 ci_1 rfl (by omega) (by omega) (fun z7 hz7 => ?_)
  refine h_iald (pc' := 971) (v := s0 0 (b3 + 1)) rfl rfl rfl hz7 (by omega) (by omega) (Zs6 _) (fun z8 hz8 => ?_)
  have tz8 := h_rgv hz8
  clear hz7
  refine h_aload_n (pc' := 972) rfl rfl rfl ?_
  refine h_iload_n (pc' := 973) rfl rfl rfl ?_
  refine h_iconst (pc' := 974) (x := (Int32.ofInt 2)) rfl rfl rfl ?_
  refine h_iadd (pc' := 975) rfl rfl hy3 ci_2 rfl (by omega) (by omega) (fun z9 hz9 => ?_)
  refine h_iald (pc' := 976) (v := s0 0 (b3 + 2)) rfl rfl rfl hz9 (by omega) (by omega) (Zs6 _) (fun z10 hz10 => ?_)
  have tz10 := h_rgv hz10
  clear hz9
  refine h_call (sp := false) (pc' := 979) (M := [(0, .ref 98), (1, .int z8), (2, .int z10)]) rfl rfl rfl rfl rfl rfl rfl rfl ?_
  refine w_207_98 _ Is6 z8 _ hz8 z10 _ hz10 (fun r11 s12 Is12 Gs12 => h_Kv ?_)
  have Zs12 : ∀ i, s12 0 i = s0 0 i := fun i => (Gs12 0 i rfl).trans (Zs6 i)
  have Fs12 : h_F (fun _ _ => true) s12 s0 := fun _ _ h => by cases h
  have es12_0 : s12 64 1 = s0 64 1 := (Gs12 64 1 rfl).trans es6_0
  have es12_1 : s12 98 11 = s0 98 11 := (Gs12 98 11 rfl).trans es6_1
  have es12_2 : s12 64 4 = s0 64 4 := (Gs12 64 4 rfl).trans es6_2
  have es12_3 : s12 98 16 = s0 98 16 := (Gs12 98 16 rfl).trans es6_3
  have es12_4 : s12 90 2 = s0 90 2 := (Gs12 90 2 rfl).trans es6_4
  have es12_5 : s12 98 29 = s0 98 29 := (Gs12 98 29 rfl).trans es6_5
  clear es6_0 es6_1 es6_2 es6_3 es6_4 es6_5
  clear hz10 hz8
  refine h_pop2 (pc' := 980) rfl rfl rfl ?_
  refine h_goto (pc' := 1441) rfl rfl ?_
  exact kk _ Is12 (by first | exact d_tape.le j0 (Int.le_antisymm (by omega) (by omega)) (by omega) (fun j => (Gs12 65 j rfl).trans ((Gs6 65 j rfl))) (fun j => (Gs12 102 j rfl).trans ((Gs6 102 j rfl))) | (exfalso; omega)) (Int.le_antisymm (by omega) (by omega)) (c_R.fr (c_R.fr j2 I0 Gs6 rfl) Is6 Gs12 rfl) (g_ti.e j3 ((funext (fun j => Gs12 100 j rfl)).trans (funext (fun j => Gs6 100 j rfl)))) (g_SH.e j4 ((funext (fun j => Gs12 94 j rfl)).trans (funext (fun j => Gs6 94 j rfl))) ((funext (fun j => Gs12 95 j rfl)).trans (funext (fun j => Gs6 95 j rfl))) ((funext (fun j => Gs12 96 j rfl)).trans (funext (fun j => Gs6 96 j rfl))) ((funext (fun j => Gs12 111 j rfl)).trans (funext (fun j => Gs6 111 j rfl))) ((funext (fun j => Gs12 112 j rfl)).trans (funext (fun j => Gs6 112 j rfl))) ((funext (fun j => Gs12 113 j rfl)).trans (funext (fun j => Gs6 113 j rfl)))) (Int.le_antisymm (by omega) (by omega))
set_option maxHeartbeats 100000000 in
theorem g_case_983 {ns : Nat} (hns : ns ≤ 320) (s0 : h_S) (I0 : h_I s0) (j0 : d_tape s0 s0) (j1 : s0 64 4 = s0 98 16) (j2 : c_R true s0) (j3 : g_ti s0) (j4 : g_SH s0) (j5 : s0 90 2 = s0 98 29) (y3 : Int32) (b3 : Int) (hy3 : y3.toInt = b3) (hr : 0 ≤ b3 ∧ b3 + 5 ≤ ns) {Q : Option Value → h_S → Prop} (kk : ∀ τ, h_I τ → (d_tape τ τ) → (τ 64 4 = τ 98 16) → (c_R true τ) → (g_ti τ) → (g_SH τ) → (τ 90 2 = τ 98 29) → h_T g_P (g_Y ns) 225 1441 [(0, .ref 0), (1, .ref 9), (2, .ref 98), (3, .int y3)] [] τ Q) : h_T g_P (g_Y ns) 225 983 [(0, .ref 0), (1, .ref 9), (2, .ref 98), (3, .int y3)] [] s0 Q := by
  have F0_ : h_F (fun _ _ => true) s0 s0 := h_F.rf
  have j0_ := j0.2
  have i0 := tf_64_1 I0
  have i1 := tf_98_11 I0
  have i2 := tf_64_4 I0
  have i3 := tf_98_16 I0
  have i4 := tf_90_2 I0
  have i5 := tf_98_29 I0
  refine h_aload_n (pc' := 984) rfl rfl rfl ?_
  refine h_aload_n (pc' := 985) rfl rfl rfl ?_
  refine h_iload_n (pc' := 986) rfl rfl rfl ?_
  refine h_iconst (pc' := 987) (x := (Int32.ofInt 1)) rfl rfl rfl ?_
  refine h_iadd (pc' := 988) rfl rfl hy3 ci_1 rfl (by omega) (by omega) (fun z1 hz1 => ?_)
  refine h_iald (pc' := 989) (v := s0 0 (b3 + 1)) rfl rfl rfl hz1 (by omega) (by omega) rfl (fun z2 hz2 => ?_)
  have tz2 := h_rgv hz2
  clear hz1
  refine h_aload_n (pc' := 990) rfl rfl rfl ?_
  refine h_iload_n (pc' := 991) rfl rfl rfl ?_
  refine h_iconst (pc' := 992) (x := (Int32.ofInt 2)) rfl rfl rfl ?_
  refine h_iadd (pc' := 993) rfl rfl hy3 ci_2 rfl (by omega) (by omega) (fun z3 hz3 => ?_)
  refine h_iald (pc' := 994) (v := s0 0 (b3 + 2)) rfl rfl rfl hz3 (by omega) (by omega) rfl (fun z4 hz4 => ?_)
  have tz4 := h_rgv hz4
  clear hz3
  refine h_aload_n (pc' := 995) rfl rfl rfl ?_
  refine h_iload_n (pc' := 996) rfl rfl rfl ?_
  refine h_iconst (pc' := 997) (x := (Int32.ofInt 3)) rfl rfl rfl ?_
  refine h_iadd (pc' := 998) rfl rfl hy3 ci_3 rfl (by omega) (by omega) (fun z5 hz5 => ?_)
  refine h_iald (pc' := 999) (v := s0 0 (b3 + 3)) rfl rfl rfl hz5 (by omega) (by omega) rfl (fun z6 hz6 => ?_)
  have tz6 := h_rgv hz6
  clear hz5
  refine h_call (sp := false) (pc' := 1002) (M := [(0, .ref 9), (1, .int z2), (2, .int z4), (3, .int z6)]) rfl rfl rfl rfl rfl rfl rfl rfl ?_
  refine w_109_9 _ I0 z2 _ hz2 z4 _ hz4 z6 _ hz6 (fun r7 s8 Is8 Gs8 => h_Kv ?_)
  have Zs8 : ∀ i, s8 0 i = s0 0 i := fun i => (Gs8 0 i rfl).trans rfl
  have Fs8 : h_F (fun _ _ => true) s8 s0 := fun _ _ h => by cases h
  have es8_0 : s8 64 1 = s0 64 1 := (Gs8 64 1 rfl).trans rfl
  have es8_1 : s8 98 11 = s0 98 11 := (Gs8 98 11 rfl).trans rfl
  have es8_2 : s8 64 4 = s0 64 4 := (Gs8 64 4 rfl).trans rfl
  have es8_3 : s8 98 16 = s0 98 16 := (Gs8 98 16 rfl).trans rfl
  have es8_4 : s8 90 2 = s0 90 2 := (Gs8 90 2 rfl).trans rfl
  have es8_5 : s8 98 29 = s0 98 29 := (Gs8 98 29 rfl).trans rfl
  clear hz2 hz4 hz6
  refine h_pop2 (pc' := 1003) rfl rfl rfl ?_
  refine h_aload_n (pc' := 1004) rfl rfl rfl ?_
  refine h_aload_n (pc' := 1005) rfl rfl rfl ?_
  refine h_iload_n (pc' := 1006) rfl rfl rfl ?_
  refine h_iconst (pc' := 1007) (x := (Int32.ofInt 1)) rfl rfl rfl ?_
  refine h_iadd (pc' := 1008) rfl rfl hy3 ci_1 rfl (by omega) (by omega) (fun z9 hz9 => ?_)
  refine h_iald (pc' := 1009) (v := s0 0 (b3 + 1)) rfl rfl rfl hz9 (by omega) (by omega) (Zs8 _) (fun z10 hz10 => ?_)
  have tz10 := h_rgv hz10
  clear hz9
  refine h_aload_n (pc' := 1010) rfl rfl rfl ?_
  refine h_iload_n (pc' := 1011) rfl rfl rfl ?_
  refine h_iconst (pc' := 1012) (x := (Int32.ofInt 2)) rfl rfl rfl ?_
  refine h_iadd (pc' := 1013) rfl rfl hy3 ci_2 rfl (by omega) (by omega) (fun z11 hz11 => ?_)
  refine h_iald (pc' := 1014) (v := s0 0 (b3 + 2)) rfl rfl rfl hz11 (by omega) (by omega) (Zs8 _) (fun z12 hz12 => ?_)
  have tz12 := h_rgv hz12
  clear hz11
  refine h_aload_n (pc' := 1015) rfl rfl rfl ?_
  refine h_iload_n (pc' := 1016) rfl rfl rfl ?_
  refine h_iconst (pc' := 1017) (x := (Int32.ofInt 3)) rfl rfl rfl ?_
  refine h_iadd (pc' := 1018) rfl rfl hy3 ci_3 rfl (by omega) (by omega) (fun z13 hz13 => ?_)
  refine h_iald (pc' := 1019) (v := s0 0 (b3 + 3)) rfl rfl rfl hz13 (by omega) (by omega) (Zs8 _) (fun z14 hz14 => ?_)
  have tz14 := h_rgv hz14
  clear hz13
  refine h_call (sp := false) (pc' := 1022) (M := [(0, .ref 98), (1, .int z10), (2, .int z12), (3, .int z14)]) rfl rfl rfl rfl rfl rfl rfl rfl ?_
  refine w_208_98 _ Is8 z10 _ hz10 z12 _ hz12 z14 _ hz14 (fun r15 s16 Is16 Gs16 => h_Kv ?_)
  have Zs16 : ∀ i, s16 0 i = s0 0 i := fun i => (Gs16 0 i rfl).trans (Zs8 i)
  have Fs16 : h_F (fun _ _ => true) s16 s0 := fun _ _ h => by cases h
  have es16_0 : s16 64 1 = s0 64 1 := (Gs16 64 1 rfl).trans es8_0
  have es16_1 : s16 98 11 = s0 98 11 := (Gs16 98 11 rfl).trans es8_1
  have es16_2 : s16 64 4 = s0 64 4 := (Gs16 64 4 rfl).trans es8_2
  have es16_3 : s16 98 16 = s0 98 16 := (Gs16 98 16 rfl).trans es8_3
  have es16_4 : s16 90 2 = s0 90 2 := (Gs16 90 2 rfl).trans es8_4
  have es16_5 : s16 98 29 = s0 98 29 := (Gs16 98 29 rfl).trans es8_5
  clear es8_0 es8_1 es8_2 es8_3 es8_4 es8_5
  clear hz10 hz12 hz14
  refine h_pop2 (pc' := 1023) rfl rfl rfl ?_
  refine h_goto (pc' := 1441) rfl rfl ?_
  exact kk _ Is16 (by first | exact d_tape.le j0 (Int.le_antisymm (by omega) (by omega)) (by omega) (fun j => (Gs16 65 j rfl).trans ((Gs8 65 j rfl))) (fun j => (Gs16 102 j rfl).trans ((Gs8 102 j rfl))) | (exfalso; omega)) (Int.le_antisymm (by omega) (by omega)) (c_R.fr (c_R.fr j2 I0 Gs8 rfl) Is8 Gs16 rfl) (g_ti.e j3 ((funext (fun j => Gs16 100 j rfl)).trans (funext (fun j => Gs8 100 j rfl)))) (g_SH.e j4 ((funext (fun j => Gs16 94 j rfl)).trans (funext (fun j => Gs8 94 j rfl))) ((funext (fun j => Gs16 95 j rfl)).trans (funext (fun j => Gs8 95 j rfl))) ((funext (fun j => Gs16 96 j rfl)).trans (funext (fun j => Gs8 96 j rfl))) ((funext (fun j => Gs16 111 j rfl)).trans (funext (fun j => Gs8 111 j rfl))) ((funext (fun j => Gs16 112 j rfl)).trans (funext (fun j => Gs8 112 j rfl))) ((funext (fun j => Gs16 113 j rfl)).trans (funext (fun j => Gs8 113 j rfl)))) (Int.le_antisymm (by omega) (by omega))
