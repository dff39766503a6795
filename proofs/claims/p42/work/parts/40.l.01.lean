set_option maxHeartbeats 100000000 in
theorem g_case_284 {ns : Nat} (hns : ns ≤ 320) (s0 : h_S) (I0 : h_I s0) (j0 : d_tape s0 s0) (j1 : s0 64 4 = s0 98 16) (j2 : c_R true s0) (j3 : g_ti s0) (j4 : g_SH s0) (j5 : s0 90 2 = s0 98 29) (y3 : Int32) (b3 : Int) (hy3 : y3.toInt = b3) (hr : 0 ≤ b3 ∧ b3 + 5 ≤ ns) {Q : Option Value → h_S → Prop} (kk : ∀ τ, h_I τ → (d_tape τ τ) → (τ 64 4 = τ 98 16) → (c_R true τ) → (g_ti τ) → (g_SH τ) → (τ 90 2 = τ 98 29) → h_T g_P (g_Y ns) 225 1441 [(0, .ref 0), (1, .ref 9), (2, .ref 98), (3, .int y3)] [] τ Q) : h_T g_P (g_Y ns) 225 284 [(0, .ref 0), (1, .ref 9), (2, .ref 98), (3, .int y3)] [] s0 Q := by
  have F0_ : h_F (fun _ _ => true) s0 s0 := h_F.rf
  have j0_ := j0.2
  have i0 := tf_64_1 I0
  have i1 := tf_98_11 I0
  have i2 := tf_64_4 I0
  have i3 := tf_98_16 I0
  have i4 := tf_90_2 I0
  have i5 := tf_98_29 I0
  have i6 := tf_10_8 I0
  have i7 := tf_98_1 I0
  have i8 := tf_10_9 I0
  have i9 := tf_98_2 I0
  have i10 := tf_10_10 I0
  have i12 := tf_13_2 I0
  have i14 := tf_16_2 I0
  have j2_ := j2.sz
  have y43 := ty_99_10 I0 43 (by omega)
  have y18 := ty_99_3 I0 18 (by omega)
  have y25 := ty_99_5 I0 25 (by omega)
  refine h_aload_n (pc' := 285) rfl rfl rfl ?_
  refine h_aload_n (pc' := 286) rfl rfl rfl ?_
  refine h_iload_n (pc' := 287) rfl rfl rfl ?_
  refine h_iconst (pc' := 288) (x := (Int32.ofInt 1)) rfl rfl rfl ?_
  refine h_iadd (pc' := 289) rfl rfl hy3 ci_1 rfl (by omega) (by omega) (fun z1 hz1 => ?_)
  refine h_iald (pc' := 290) (v := s0 0 (b3 + 1)) rfl rfl rfl hz1 (by omega) (by omega) rfl (fun z2 hz2 => ?_)
  have tz2 := h_rgv hz2
  clear hz1
  refine h_call (sp := false) (pc' := 293) (M := [(0, .ref 9), (1, .int z2)]) rfl rfl rfl rfl rfl rfl rfl rfl ?_
  refine w_86_9 _ I0 z2 _ hz2 (fun r3 br3 hr3 s4 Is4 Gs4 => h_Kv ?_)
  have Zs4 : ∀ i, s4 0 i = s0 0 i := fun i => (Gs4 0 i rfl).trans rfl
  have Fs4 : h_F (fun _ _ => true) s4 s0 := fun _ _ h => by cases h
  have es4_0 : s4 64 1 = s0 64 1 := (Gs4 64 1 rfl).trans rfl
  have es4_1 : s4 98 11 = s0 98 11 := (Gs4 98 11 rfl).trans rfl
  have es4_2 : s4 64 4 = s0 64 4 := (Gs4 64 4 rfl).trans rfl
  have es4_3 : s4 98 16 = s0 98 16 := (Gs4 98 16 rfl).trans rfl
  have es4_4 : s4 90 2 = s0 90 2 := (Gs4 90 2 rfl).trans rfl
  have es4_5 : s4 98 29 = s0 98 29 := (Gs4 98 29 rfl).trans rfl
  have es4_6 : s4 10 8 = s0 10 8 := (Gs4 10 8 rfl).trans rfl
  have es4_7 : s4 98 1 = s0 98 1 := (Gs4 98 1 rfl).trans rfl
  have es4_8 : s4 10 9 = s0 10 9 := (Gs4 10 9 rfl).trans rfl
  have es4_9 : s4 98 2 = s0 98 2 := (Gs4 98 2 rfl).trans rfl
  have es4_10 : s4 10 10 = s0 10 10 := (Gs4 10 10 rfl).trans rfl
  have es4_11 : s4 99 43 = s0 99 43 := (Gs4 99 43 rfl).trans rfl
  have es4_12 : s4 13 2 = s0 13 2 := (Gs4 13 2 rfl).trans rfl
  have es4_13 : s4 99 18 = s0 99 18 := (Gs4 99 18 rfl).trans rfl
  have es4_14 : s4 16 2 = s0 16 2 := (Gs4 16 2 rfl).trans rfl
  have es4_15 : s4 99 25 = s0 99 25 := (Gs4 99 25 rfl).trans rfl
  clear hz2
  refine h_pop (pc' := 294) rfl rfl rfl ?_
  clear hr3
  refine h_aload_n (pc' := 295) rfl rfl rfl ?_
  refine h_aload_n (pc' := 296) rfl rfl rfl ?_
  refine h_iload_n (pc' := 297) rfl rfl rfl ?_
  refine h_iconst (pc' := 298) (x := (Int32.ofInt 1)) rfl rfl rfl ?_
  refine h_iadd (pc' := 299) rfl rfl hy3 ci_1 rfl (by omega) (by omega) (fun z5 hz5 => ?_)
  refine h_iald (pc' := 300) (v := s0 0 (b3 + 1)) rfl rfl rfl hz5 (by omega) (by omega) (Zs4 _) (fun z6 hz6 => ?_)
  have tz6 := h_rgv hz6
  clear hz5
  refine h_call (sp := false) (pc' := 303) (M := [(0, .ref 98), (1, .int z6)]) rfl rfl rfl rfl rfl rfl rfl rfl ?_
  refine w_160_98 _ Is4 z6 _ hz6 (fun r7 br7 hr7 s8 Is8 Gs8 => h_Kv ?_)
  have Zs8 : ∀ i, s8 0 i = s0 0 i := fun i => (Gs8 0 i rfl).trans (Zs4 i)
  have Fs8 : h_F (fun _ _ => true) s8 s0 := fun _ _ h => by cases h
  have es8_0 : s8 64 1 = s0 64 1 := (Gs8 64 1 rfl).trans es4_0
  have es8_1 : s8 98 11 = s0 98 11 := (Gs8 98 11 rfl).trans es4_1
  have es8_2 : s8 64 4 = s0 64 4 := (Gs8 64 4 rfl).trans es4_2
  have es8_3 : s8 98 16 = s0 98 16 := (Gs8 98 16 rfl).trans es4_3
  have es8_4 : s8 90 2 = s0 90 2 := (Gs8 90 2 rfl).trans es4_4
  have es8_5 : s8 98 29 = s0 98 29 := (Gs8 98 29 rfl).trans es4_5
  have es8_6 : s8 10 8 = s0 10 8 := (Gs8 10 8 rfl).trans es4_6
  have es8_7 : s8 98 1 = s0 98 1 := (Gs8 98 1 rfl).trans es4_7
  have es8_8 : s8 10 9 = s0 10 9 := (Gs8 10 9 rfl).trans es4_8
  have es8_9 : s8 98 2 = s0 98 2 := (Gs8 98 2 rfl).trans es4_9
  have es8_10 : s8 10 10 = s0 10 10 := (Gs8 10 10 rfl).trans es4_10
  have es8_11 : s8 99 43 = s0 99 43 := (Gs8 99 43 rfl).trans es4_11
  have es8_12 : s8 13 2 = s0 13 2 := (Gs8 13 2 rfl).trans es4_12
  have es8_13 : s8 99 18 = s0 99 18 := (Gs8 99 18 rfl).trans es4_13
  have es8_14 : s8 16 2 = s0 16 2 := (Gs8 16 2 rfl).trans es4_14
  have es8_15 : s8 99 25 = s0 99 25 := (Gs8 99 25 rfl).trans es4_15
  clear es4_0 es4_1 es4_10 es4_11 es4_12 es4_13 es4_14 es4_15 es4_2 es4_3 es4_4 es4_5 es4_6 es4_7 es4_8 es4_9
  clear hz6
  refine h_pop (pc' := 304) rfl rfl rfl ?_
  clear hr7
  refine h_goto (pc' := 1441) rfl rfl ?_
  exact kk _ Is8 (by first | exact d_tape.le j0 (Int.le_antisymm (by omega) (by omega)) (by omega) (fun j => (Gs8 65 j rfl).trans ((Gs4 65 j rfl))) (fun j => (Gs8 102 j rfl).trans ((Gs4 102 j rfl))) | (exfalso; omega)) (Int.le_antisymm (by omega) (by omega)) (c_R.fr (c_R.fr j2 I0 Gs4 rfl) Is4 Gs8 rfl) (g_ti.e j3 ((funext (fun j => Gs8 100 j rfl)).trans (funext (fun j => Gs4 100 j rfl)))) (g_SH.e j4 ((funext (fun j => Gs8 94 j rfl)).trans (funext (fun j => Gs4 94 j rfl))) ((funext (fun j => Gs8 95 j rfl)).trans (funext (fun j => Gs4 95 j rfl))) ((funext (fun j => Gs8 96 j rfl)).trans (funext (fun j => Gs4 96 j rfl))) ((funext (fun j => Gs8 111 j rfl)).trans (funext (fun j => Gs4 111 j rfl))) ((funext (fun j => Gs8 112 j rfl)).trans (funext (fun j => Gs4 112 j rfl))) ((funext (fun j => Gs8 113 j rfl)).trans (funext (fun j => Gs4 113 j rfl)))) (Int.le_antisymm (by omega) (by omega))
set_option maxHeartbeats 100000000 in
theorem g_case_307 {ns : Nat} (hns : ns ≤ 320) (s0 : h_S) (I0 : h_I s0) (j0 : d_tape s0 s0) (j1 : s0 64 4 = s0 98 16) (j2 : c_R true s0) (j3 : g_ti s0) (j4 : g_SH s0) (j5 : s0 90 2 = s0 98 29) (y3 : Int32) (b3 : Int) (hy3 : y3.toInt = b3) (hr : 0 ≤ b3 ∧ b3 + 5 ≤ ns) {Q : Option Value → h_S → Prop} (kk : ∀ τ, h_I τ → (d_tape τ τ) → (τ 64 4 = τ 98 16) → (c_R true τ) → (g_ti τ) → (g_SH τ) → (τ 90 2 = τ 98 29) → h_T g_P (g_Y ns) 225 1441 [(0, .ref 0), (1, .ref 9), (2, .ref 98), (3, .int y3)] [] τ Q) : h_T g_P (g_Y ns) 225 307 [(0, .ref 0), (1, .ref 9), (2, .ref 98), (3, .int y3)] [] s0 Q := by
  have F0_ : h_F (fun _ _ => true) s0 s0 := h_F.rf
  have j0_ := j0.2
  have i0 := tf_64_1 I0
  have i1 := tf_98_11 I0
  have i2 := tf_64_4 I0
  have i3 := tf_98_16 I0
  have i4 := tf_90_2 I0
  have i5 := tf_98_29 I0
  have i6 := tf_10_8 I0
  have i7 := tf_98_1 I0
  have j2_ := j2.sz
  refine h_aload_n (pc' := 308) rfl rfl rfl ?_
  refine h_aload_n (pc' := 309) rfl rfl rfl ?_
  refine h_iload_n (pc' := 310) rfl rfl rfl ?_
  refine h_iconst (pc' := 311) (x := (Int32.ofInt 1)) rfl rfl rfl ?_
  refine h_iadd (pc' := 312) rfl rfl hy3 ci_1 rfl (by omega) (by omega) (fun z1 hz1 => ?_)
  refine h_iald (pc' := 313) (v := s0 0 (b3 + 1)) rfl rfl rfl hz1 (by omega) (by omega) rfl (fun z2 hz2 => ?_)
  have tz2 := h_rgv hz2
  clear hz1
  refine h_aload_n (pc' := 314) rfl rfl rfl ?_
  refine h_iload_n (pc' := 315) rfl rfl rfl ?_
  refine h_iconst (pc' := 316) (x := (Int32.ofInt 2)) rfl rfl rfl ?_
  refine h_iadd (pc' := 317) rfl rfl hy3 ci_2 rfl (by omega) (by omega) (fun z3 hz3 => ?_)
  refine h_iald (pc' := 318) (v := s0 0 (b3 + 2)) rfl rfl rfl hz3 (by omega) (by omega) rfl (fun z4 hz4 => ?_)
  have tz4 := h_rgv hz4
  clear hz3
  refine h_call (sp := false) (pc' := 321) (M := [(0, .ref 9), (1, .int z2), (2, .int z4)]) rfl rfl rfl rfl rfl rfl rfl rfl ?_
  refine w_87_9 _ I0 z2 _ hz2 z4 _ hz4 (fun r5 br5 hr5 s6 Is6 Gs6 => h_Kv ?_)
  have Zs6 : ∀ i, s6 0 i = s0 0 i := fun i => (Gs6 0 i rfl).trans rfl
  have Fs6 : h_F (fun _ _ => true) s6 s0 := fun _ _ h => by cases h
  have es6_0 : s6 64 1 = s0 64 1 := (Gs6 64 1 rfl).trans rfl
  have es6_1 : s6 98 11 = s0 98 11 := (Gs6 98 11 rfl).trans rfl
  have es6_2 : s6 64 4 = s0 64 4 := (Gs6 64 4 rfl).trans rfl
  have es6_3 : s6 98 16 = s0 98 16 := (Gs6 98 16 rfl).trans rfl
  have es6_4 : s6 90 2 = s0 90 2 := (Gs6 90 2 rfl).trans rfl
  have es6_5 : s6 98 29 = s0 98 29 := (Gs6 98 29 rfl).trans rfl
  have es6_6 : s6 10 8 = s0 10 8 := (Gs6 10 8 rfl).trans rfl
  have es6_7 : s6 98 1 = s0 98 1 := (Gs6 98 1 rfl).trans rfl
  clear hz2 hz4
  refine h_pop (pc' := 322) rfl rfl rfl ?_
  clear hr5
  refine h_aload_n (pc' := 323) rfl rfl rfl ?_
  refine h_aload_n (pc' := 324) rfl rfl rfl ?_
  refine h_iload_n (pc' := 325) rfl rfl rfl ?_
  refine h_iconst (pc' := 326) (x := (Int32.ofInt 1)) rfl rfl rfl ?_
  refine h_iadd (pc' := 327) rfl rfl hy3 ci_1 rfl (by omega) (by omega) (fun z7 hz7 => ?_)
  refine h_iald (pc' := 328) (v := s0 0 (b3 + 1)) rfl rfl rfl hz7 (by omega) (by omega) (Zs6 _) (fun z8 hz8 => ?_)
  have tz8 := h_rgv hz8
  clear hz7
  refine h_aload_n (pc' := 329) rfl rfl rfl ?_
  refine h_iload_n (pc' := 330) rfl rfl rfl ?_
  refine h_iconst (pc' := 331) (x := (Int32.ofInt 2)) rfl rfl rfl ?_
  refine h_iadd (pc' := 332) rfl rfl hy3 ci_2 rfl (by omega) (by omega) (fun z9 hz9 => ?_)
  refine h_iald (pc' := 333) (v := s0 0 (b3 + 2)) rfl rfl rfl hz9 (by omega) (by omega) (Zs6 _) (fun z10 hz10 => ?_)
  have tz10 := h_rgv hz10
  clear hz9
  refine h_call (sp := false) (pc' := 336) (M := [(0, .ref 98), (1, .int z8), (2, .int z10)]) rfl rfl rfl rfl rfl rfl rfl rfl ?_
  refine w_168_98 _ Is6 z8 _ hz8 z10 _ hz10 (fun r11 br11 hr11 s12 Is12 Gs12 => h_Kv ?_)
  have Zs12 : ∀ i, s12 0 i = s0 0 i := fun i => (Gs12 0 i rfl).trans (Zs6 i)
  have Fs12 : h_F (fun _ _ => true) s12 s0 := fun _ _ h => by cases h
  have es12_0 : s12 64 1 = s0 64 1 := (Gs12 64 1 rfl).trans es6_0
  have es12_1 : s12 98 11 = s0 98 11 := (Gs12 98 11 rfl).trans es6_1
  have es12_2 : s12 64 4 = s0 64 4 := (Gs12 64 4 rfl).trans es6_2
  have es12_3 : s12 98 16 = s0 98 16 := (Gs12 98 16 rfl).trans es6_3
  have es12_4 : s12 90 2 = s0 90 2 := (Gs12 90 2 rfl).trans es6_4
  have es12_5 : s12 98 29 = s0 98 29 := (Gs12 98 29 rfl).trans es6_5
  have es12_6 : s12 10 8 = s0 10 8 := (Gs12 10 8 rfl).trans es6_6
  have es12_7 : s12 98 1 = s0 98 1 := (Gs12 98 1 rfl).trans es6_7
  clear es6_0 es6_1 es6_2 es6_3 es6_4 es6_5 es6_6 es6_7
  clear hz10 hz8
  refine h_pop (pc' := 337) rfl rfl rfl ?_
  clear hr11
  refine h_goto (pc' := 1441) rfl rfl ?_
  exact kk _ Is12 (by first | exact d_tape.le j0 (Int.le_antisymm (by omega) (by omega)) (by omega) (fun j => (Gs12 65 j rfl).trans ((Gs6 65 j rfl))) (fun j => (Gs12 102 j rfl).trans ((Gs6 102 j rfl))) | (exfalso; omega)) (Int.le_antisymm (by omega) (by omega)) (c_R.fr (c_R.fr j2 I0 Gs6 rfl) Is6 Gs12 rfl) (g_ti.e j3 ((funext (fun j => Gs12 100 j rfl)).trans (funext (fun j => Gs6 100 j rfl)))) (g_SH.e j4 ((funext (fun j => Gs12 94 j rfl)).trans (funext (fun j => Gs6 94 j rfl))) ((funext (fun j => Gs12 95 j rfl)).trans (funext (fun j => Gs6 95 j rfl))) ((funext (fun j => Gs12 96 j rfl)).trans (funext (fun j => Gs6 96 j rfl))) ((funext (fun j => Gs12 111 j rfl)).trans (funext (fun j => Gs6 111 j rfl))) ((funext (fun j => Gs12 112 j rfl)).trans (funext (fun j => Gs6 112 j rfl))) ((funext (fun j => Gs12 113 j rfl)).trans (funext (fun j => Gs6 113 j rfl)))) (Int.le_antisymm (by omega) (by omega))
set_option maxHeartbeats 100000000 in
theorem g_case_340 {ns : Nat} (hns : ns ≤ 320) (s0 : h_S) (I0 : h_I s0) (j0 : d_tape s0 s0) (j1 : s0 64 4 = s0 98 16) (j2 : c_R true s0) (j3 : g_ti s0) (j4 : g_SH s0) (j5 : s0 90 2 = s0 98 29) (y3 : Int32) (b3 : Int) (hy3 : y3.toInt = b3) (hr : 0 ≤ b3 ∧ b3 + 5 ≤ ns) {Q : Option Value → h_S → Prop} (kk : ∀ τ, h_I τ → (d_tape τ τ) → (τ 64 4 = τ 98 16) → (c_R true τ) → (g_ti τ) → (g_SH τ) → (τ 90 2 = τ 98 29) → h_T g_P (g_Y ns) 225 1441 [(0, .ref 0), (1, .ref 9), (2, .ref 98), (3, .int y3)] [] τ Q) : h_T g_P (g_Y ns) 225 340 [(0, .ref 0), (1, .ref 9), (2, .ref 98), (3, .int y3)] [] s0 Q := by
  have F0_ : h_F (fun _ _ => true) s0 s0 := h_F.rf
  have j0_ := j0.2
  have i0 := tf_64_1 I0
  have i1 := tf_98_11 I0
  have i2 := tf_64_4 I0
  have i3 := tf_98_16 I0
  have i4 := tf_90_2 I0
  have i5 := tf_98_29 I0
  have i6 := tf_10_9 I0
  have i7 := tf_98_2 I0
  have j2_ := j2.sz
  refine h_aload_n (pc' := 341) rfl rfl rfl ?_
  refine h_aload_n (pc' := 342) rfl rfl rfl ?_
  refine h_iload_n (pc' := 343) rfl rfl rfl ?_
  refine h_iconst (pc' := 344) (x := (Int32.ofInt 1)) rfl rfl rfl ?_
  refine h_iadd (pc' := 345) rfl rfl hy3 ci_1 rfl (by omega) (by omega) (fun z1 hz1 => ?_)
  refine h_iald (pc' := 346) (v := s0 0 (b3 + 1)) rfl rfl rfl hz1 (by omega) (by omega) rfl (fun z2 hz2 => ?_)
  have tz2 := h_rgv hz2
  clear hz1
  refine h_aload_n (pc' := 347) rfl rfl rfl ?_
  refine h_iload_n (pc' := 348) rfl rfl rfl ?_
  refine h_iconst (pc' := 349) (x := (Int32.ofInt 2)) rfl rfl rfl ?_
  refine h_iadd (pc' := 350) rfl rfl hy3 ci_2 rfl (by omega) (by omega) (fun z3 hz3 => ?_)
  refine h_iald (pc' := 351) (v := s0 0 (b3 + 2)) rfl rfl rfl hz3 (by omega) (by omega) rfl (fun z4 hz4 => ?_)
  have tz4 := h_rgv hz4
  clear hz3
  refine h_call (sp := false) (pc' := 354) (M := [(0, .ref 9), (1, .int z2), (2, .int z4)]) rfl rfl rfl rfl rfl rfl rfl rfl ?_
  refine w_88_9 _ I0 z2 _ hz2 z4 _ hz4 (fun r5 br5 hr5 s6 Is6 Gs6 => h_Kv ?_)
  have Zs6 : ∀ i, s6 0 i = s0 0 i := fun i => (Gs6 0 i rfl).trans rfl
  have Fs6 : h_F (fun _ _ => true) s6 s0 := fun _ _ h => by cases h
  have es6_0 : s6 64 1 = s0 64 1 := (Gs6 64 1 rfl).trans rfl
  have es6_1 : s6 98 11 = s0 98 11 := (Gs6 98 11 rfl).trans rfl
  have es6_2 : s6 64 4 = s0 64 4 := (Gs6 64 4 rfl).trans rfl
  have es6_3 : s6 98 16 = s0 98 16 := (Gs6 98 16 rfl).trans rfl
  have es6_4 : s6 90 2 = s0 90 2 := (Gs6 90 2 rfl).trans rfl
  have es6_5 : s6 98 29 = s0 98 29 := (Gs6 98 29 rfl).trans rfl
  have es6_6 : s6 10 9 = s0 10 9 := (Gs6 10 9 rfl).trans rfl
  have es6_7 : s6 98 2 = s0 98 2 := (Gs6 98 2 rfl).trans rfl
  clear hz2 hz4
  refine h_pop (pc' := 355) rfl rfl rfl ?_
  clear hr5
  refine h_aload_n (pc' := 356) rfl rfl rfl ?_
  refine h_aload_n (pc' := 357) rfl rfl rfl ?_
  refine h_iload_n (pc' := 358) rfl rfl rfl ?_
  refine h_iconst (pc' := 359) (x := (Int32.ofInt 1)) rfl rfl rfl ?_
  refine h_iadd (pc' := 360) rfl rfl hy3 ci_1 rfl (by omega) (by omega) (fun z7 hz7 => ?_)
  refine h_iald (pc' := 361) (v := s0 0 (b3 + 1)) rfl rfl rfl hz7 (by omega) (by omega) (Zs6 _) (fun z8 hz8 => ?_)
  have tz8 := h_rgv hz8
  clear hz7
  refine h_aload_n (pc' := 362) rfl rfl rfl ?_
  refine h_iload_n (pc' := 363) rfl rfl rfl ?_
  refine h_iconst (pc' := 364) (x := (Int32.ofInt 2)) rfl rfl rfl ?_
  refine h_iadd (pc' := 365) rfl rfl hy3 ci_2 rfl (by omega) (by omega) (fun z9 hz9 => ?_)
  refine h_iald (pc' := 366) (v := s0 0 (b3 + 2)) rfl rfl rfl hz9 (by omega) (by omega) (Zs6 _) (fun z10 hz10 => ?_)
  have tz10 := h_rgv hz10
  clear hz9
  refine h_call (sp := false) (pc' := 369) (M := [(0, .ref 98), (1, .int z8), (2, .int z10)]) rfl rfl rfl rfl rfl rfl rfl rfl ?_
  refine w_170_98 _ Is6 z8 _ hz8 z10 _ hz10 (fun r11 br11 hr11 s12 Is12 Gs12 => h_Kv ?_)
  have Zs12 : ∀ i, s12 0 i = s0 0 i := fun i => (Gs12 0 i rfl).trans (Zs6 i)
  have Fs12 : h_F (fun _ _ => true) s12 s0 := fun _ _ h => by cases h
  have es12_0 : s12 64 1 = s0 64 1 := (Gs12 64 1 rfl).trans es6_0
  have es12_1 : s12 98 11 = s0 98 11 := (Gs12 98 11 rfl).trans es6_1
  have es12_2 : s12 64 4 = s0 64 4 := (Gs12 64 4 rfl).trans es6_2
  have es12_3 : s12 98 16 = s0 98 16 := (Gs12 98 16 rfl).trans es6_3
  have es12_4 : s12 90 2 = s0 90 2 := (Gs12 90 2 rfl).trans es6_4
  have es12_5 : s12 98 29 = s0 98 29 := (Gs12 98 29 rfl).trans es6_5
  have es12_6 : s12 10 9 = s0 10 9 := (Gs12 10 9 rfl).trans es6_6
  have es12_7 : s12 98 2 = s0 98 2 := (Gs12 98 2 rfl).trans es6_7
  clear es6_0 es6_1 es6_2 es6_3 es6_4 es6_5 es6_6 es6_7
  clear hz10 hz8
  refine h_pop (pc' := 370) rfl rfl rfl ?_
  clear hr11
  refine h_goto (pc' := 1441) rfl rfl ?_
  exact kk _ Is12 (by first | exact d_tape.le j0 (Int.le_antisymm (by omega) (by omega)) (by omega) (fun j => (Gs12 65 j rfl).trans ((Gs6 65 j rfl))) (fun j => (Gs12 102 j rfl).trans ((Gs6 102 j rfl))) | (exfalso; omega)) (Int.le_antisymm (by omega) (by omega)) (c_R.fr (c_R.fr j2 I0 Gs6 rfl) Is6 Gs12 rfl) (g_ti.e j3 ((funext (fun j => Gs12 100 j rfl)).trans (funext (fun j => Gs6 100 j rfl)))) (g_SH.e j4 ((funext (fun j => Gs12 94 j rfl)).trans (funext (fun j => Gs6 94 j rfl))) ((funext (fun j => Gs12 95 j rfl)).trans (funext (fun j => Gs6 95 j rfl))) ((funext (fun j => Gs12 96 j rfl)).trans (funext (fun j => Gs6 96 j rfl))) ((funext (fun j => Gs12 111 j rfl)).trans (funext (fun j => Gs6 111 j rfl))) ((funext (fun j => Gs12 112 j rfl)).trans (funext (fun j => Gs6 112 j rfl))) ((funext (fun j => Gs12 113 j rfl)).trans (funext (fun j => Gs6 113 j rfl)))) (Int.le_antisymm (by omega) (by omega))
set_option maxHeartbeats 100000000 in
theorem g_case_373 {ns : Nat} (hns : ns ≤ 320) (s0 : h_S) (I0 : h_I s0) (j0 : d_tape s0 s0) (j1 : s0 64 4 = s0 98 16) (j2 : c_R true s0) (j3 : g_ti s0) (j4 : g_SH s0) (j5 : s0 90 2 = s0 98 29) (y3 : Int32) (b3 : Int) (hy3 : y3.toInt = b3) (hr : 0 ≤ b3 ∧ b3 + 5 ≤ ns) {Q : Option Value → h_S → Prop} (kk : ∀ τ, h_I τ → (d_tape τ τ) → (τ 64 4 = τ 98 16) → (c_R true τ) → (g_ti τ) → (g_SH τ) → (τ 90 2 = τ 98 29) → h_T g_P (g_Y ns) 225 1441 [(0, .ref 0), (1, .ref 9), (2, .ref 98), (3, .int y3)] [] τ Q) : h_T g_P (g_Y ns) 225 373 [(0, .ref 0), (1, .ref 9), (2, .ref 98), (3, .int y3)] [] s0 Q := by
  have F0_ : h_F (fun _ _ => true) s0 s0 := h_F.rf
  have j0_ := j0.2
  have i0 := tf_64_1 I0
  have i1 := tf_98_11 I0
  have i2 := tf_64_4 I0
  have i3 := tf_98_16 I0
  have i4 := tf_90_2 I0
  have i5 := tf_98_29 I0
  have i6 := tf_13_2 I0
  have i8 := tf_16_2 I0
  have j2_ := j2.sz
  have y18 := ty_99_3 I0 18 (by omega)
  have y25 := ty_99_5 I0 25 (by omega)
  refine h_aload_n (pc' := 374) rfl rfl rfl ?_
  refine h_aload_n (pc' := 375) rfl rfl rfl ?_
  refine h_iload_n (pc' := 376) rfl rfl rfl ?_
  refine h_iconst (pc' := 377) (x := (Int32.ofInt 1)) rfl rfl rfl ?_
  refine h_iadd (pc' := 378) rfl rfl hy3 ci_1 rfl (by omega) (by omega) (fun z1 hz1 => ?_)
  refine h_iald (pc' := 379) (v := s0 0 (b3 + 1)) rfl rfl rfl hz1 (by omega) (by omega) rfl (fun z2 hz2 => ?_)
  have tz2 := h_rgv hz2
  clear hz1
  refine h_aload_n (pc' := 380) rfl rfl rfl ?_
  refine h_iload_n (pc' := 381) rfl rfl rfl ?_
  refine h_iconst (pc' := 382) (x := (Int32.ofInt 2)) rfl rfl rfl ?_
  refine h_iadd (pc' := 383) rfl rfl hy3 ci_2 rfl (by omega) (by omega) (fun z3 hz3 => ?_)
  refine h_iald (pc' := 384) (v := s0 0 (b3 + 2)) rfl rfl rfl hz3 (by omega) (by omega) rfl (fun z4 hz4 => ?_)
  have tz4 := h_rgv hz4
  clear hz3
  refine h_call (sp := false) (pc' := 387) (M := [(0, .ref 9), (1, .int z2), (2, .int z4)]) rfl rfl rfl rfl rfl rfl rfl rfl ?_
  refine w_89_9 _ I0 z2 _ hz2 z4 _ hz4 (fun r5 br5 hr5 s6 Is6 Gs6 tr5 => h_Kv ?_)
  have Zs6 : ∀ i, s6 0 i = s0 0 i := fun i => (Gs6 0 i rfl).trans rfl
  have Fs6 : h_F (fun _ _ => true) s6 s0 := fun _ _ h => by cases h
  have es6_0 : s6 64 1 = s0 64 1 := (Gs6 64 1 rfl).trans rfl
  have es6_1 : s6 98 11 = s0 98 11 := (Gs6 98 11 rfl).trans rfl
  have es6_2 : s6 64 4 = s0 64 4 := (Gs6 64 4 rfl).trans rfl
  have es6_3 : s6 98 16 = s0 98 16 := (Gs6 98 16 rfl).trans rfl
  have es6_4 : s6 90 2 = s0 90 2 := (Gs6 90 2 rfl).trans rfl
  have es6_5 : s6 98 29 = s0 98 29 := (Gs6 98 29 rfl).trans rfl
  have es6_6 : s6 13 2 = s0 13 2 := (Gs6 13 2 rfl).trans rfl
  have es6_7 : s6 99 18 = s0 99 18 := (Gs6 99 18 rfl).trans rfl
  have es6_8 : s6 16 2 = s0 16 2 := (Gs6 16 2 rfl).trans rfl
  have es6_9 : s6 99 25 = s0 99 25 := (Gs6 99 25 rfl).trans rfl
  clear hz2 hz4
  refine h_pop (pc' := 388) rfl rfl rfl ?_
  clear hr5
  refine h_aload_n (pc' := 389) rfl rfl rfl ?_
  refine h_aload_n (pc' := 390) rfl rfl rfl ?_
  refine h_iload_n (pc' := 391) rfl rfl rfl ?_
  refine h_iconst (pc' := 392) (x := (Int32.ofInt 1)) rfl rfl rfl ?_
  refine h_iadd (pc' := 393) rfl rfl hy3 ci_1 rfl (by omega) (by omega) (fun z7 hz7 => ?_)
  refine h_iald (pc' := 394) (v := s0 0 (b3 + 1)) rfl rfl rfl hz7 (by omega) (by omega) (Zs6 _) (fun z8 hz8 => ?_)
  have tz8 := h_rgv hz8
  clear hz7
  refine h_aload_n (pc' := 395) rfl rfl rfl ?_
  refine h_iload_n (pc' := 396) rfl rfl rfl ?_
  refine h_iconst (pc' := 397) (x := (Int32.ofInt 2)) rfl rfl rfl ?_
  refine h_iadd (pc' := 398) rfl rfl hy3 ci_2 rfl (by omega) (by omega) (fun z9 hz9 => ?_)
  refine h_iald (pc' := 399) (v := s0 0 (b3 + 2)) rfl rfl rfl hz9 (by omega) (by omega) (Zs6 _) (fun z10 hz10 => ?_)
  have tz10 := h_rgv hz10
  clear hz9
  refine h_call (sp := false) (pc' := 402) (M := [(0, .ref 98), (1, .int z8), (2, .int z10)]) rfl rfl rfl rfl rfl rfl rfl rfl ?_
  refine w_173_98 _ Is6 z8 _ hz8 z10 _ hz10 (fun r11 br11 hr11 s12 Is12 Gs12 tr11 => h_Kv ?_)
  have Zs12 : ∀ i, s12 0 i = s0 0 i := fun i => (Gs12 0 i rfl).trans (Zs6 i)
  have Fs12 : h_F (fun _ _ => true) s12 s0 := fun _ _ h => by cases h
  have es12_0 : s12 64 1 = s0 64 1 := (Gs12 64 1 rfl).trans es6_0
  have es12_1 : s12 98 11 = s0 98 11 := (Gs12 98 11 rfl).trans es6_1
  have es12_2 : s12 64 4 = s0 64 4 := (Gs12 64 4 rfl).trans es6_2
  have es12_3 : s12 98 16 = s0 98 16 := (Gs12 98 16 rfl).trans es6_3
  have es12_4 : s12 90 2 = s0 90 2 := (Gs12 90 2 rfl).trans es6_4
  have es12_5 : s12 98 29 = s0 98 29 := (Gs12 98 29 rfl).trans es6_5
  have es12_6 : s12 13 2 = s0 13 2 := (Gs12 13 2 rfl).trans es6_6
  have es12_7 : s12 99 18 = s0 99 18 := (Gs12 99 18 rfl).trans es6_7
  have es12_8 : s12 16 2 = s0 16 2 := (Gs12 16 2 rfl).trans es6_8
  have es12_9 : s12 99 25 = s0 99 25 := (Gs12 99 25 rfl).trans es6_9
  clear es6_0 es6_1 es6_2 es6_3 es6_4 es6_5 es6_6 es6_7 es6_8 es6_9
  clear hz10 hz8
  refine h_pop (pc' := 403) rfl rfl rfl ?_
  clear hr11
  refine h_goto (pc' := 1441) rfl rfl ?_
  exact kk _ Is12 (by first | exact d_tape.le j0 (Int.le_antisymm (by omega) (by omega)) (by omega) (fun j => (Gs12 65 j rfl).trans ((Gs6 65 j rfl))) (fun j => (Gs12 102 j rfl).trans ((Gs6 102 j rfl))) | (exfalso; omega)) (Int.le_antisymm (by omega) (by omega)) (c_R.fr (c_R.fr j2 I0 Gs6 rfl) Is6 Gs12 rfl) (g_ti.e j3 ((funext (fun j => Gs12 100 j rfl)).trans (funext (fun j => Gs6 100 j rfl)))) (g_SH.e j4 ((funext (fun j => Gs12 94 j rfl)).trans (funext (fun j => Gs6 94 j rfl))) ((funext (fun j => Gs12 95 j rfl)).trans (funext (fun j => Gs6 95 j rfl))) ((funext (fun j => Gs12 96 j rfl)).trans (funext (fun j => Gs6 96 j rfl))) ((funext (fun j => Gs12 111 j rfl)).trans (funext (fun j => Gs6 111 j rfl))) ((funext (fun j => Gs12 112 j rfl)).trans (funext (fun j => Gs6 112 j rfl))) ((funext (fun j => Gs12 113 j rfl)).trans (funext (fun j => Gs6 113 j rfl)))) (Int.le_antisymm (by omega) (by omega))
set_option maxHeartbeats 100000000 in
theorem g_case_406 {ns : Nat} (hns : ns ≤ 320) (s0 : h_S) (I0 : h_I s0) (j0 : d_tape s0 s0) (j1 : s0 64 4 = s0 98 16) (j2 : c_R true s0) (j3 : g_ti s0) (j4 : g_SH s0) (j5 : s0 90 2 = s0 98 29) (y3 : Int32) (b3 : Int) (hy3 : y3.toInt = b3) (hr : 0 ≤ b3 ∧ b3 + 5 ≤ ns) {Q : Option Value → h_S → Prop} (kk : ∀ τ, h_I τ → (d_tape τ τ) → (τ 64 4 = τ 98 16) → (c_R true τ) → (g_ti τ) → (g_SH τ) → (τ 90 2 = τ 98 29) → h_T g_P (g_Y ns) 225 1441 [(0, .ref 0), (1, .ref 9), (2, .ref 98), (3, .int y3)] [] τ Q) : h_T g_P (g_Y ns) 225 406 [(0, .ref 0), (1, .ref 9), (2, .ref 98), (3, .int y3)] [] s0 Q := by
  have F0_ : h_F (fun _ _ => true) s0 s0 := h_F.rf
  have j0_ := j0.2
  have i0 := tf_64_1 I0
  have i1 := tf_98_11 I0
  have i2 := tf_64_4 I0
  have i3 := tf_98_16 I0
  have i4 := tf_90_2 I0
  have i5 := tf_98_29 I0
  have i6 := tf_10_10 I0
  have j2_ := j2.sz
  have y43 := ty_99_10 I0 43 (by omega)
  refine h_aload_n (pc' := 407) rfl rfl rfl ?_
  refine h_aload_n (pc' := 408) rfl rfl rfl ?_
  refine h_iload_n (pc' := 409) rfl rfl rfl ?_
  refine h_iconst (pc' := 410) (x := (Int32.ofInt 1)) rfl rfl rfl ?_
  refine h_iadd (pc' := 411) rfl rfl hy3 ci_1 rfl (by omega) (by omega) (fun z1 hz1 => ?_)
  refine h_iald (pc' := 412) (v := s0 0 (b3 + 1)) rfl rfl rfl hz1 (by omega) (by omega) rfl (fun z2 hz2 => ?_)
  have tz2 := h_rgv hz2
  clear hz1
  refine h_call (sp := false) (pc' := 415) (M := [(0, .ref 9), (1, .int z2)]) rfl rfl rfl rfl rfl rfl rfl rfl ?_
  refine w_90_9 _ I0 z2 _ hz2 (fun r3 br3 hr3 s4 Is4 Gs4 tr3 => h_Kv ?_)
  have Zs4 : ∀ i, s4 0 i = s0 0 i := fun i => (Gs4 0 i rfl).trans rfl
  have Fs4 : h_F (fun _ _ => true) s4 s0 := fun _ _ h => by cases h
  have es4_0 : s4 64 1 = s0 64 1 := (Gs4 64 1 rfl).trans rfl
  have es4_1 : s4 98 11 = s0 98 11 := (Gs4 98 11 rfl).trans rfl
  have es4_2 : s4 64 4 = s0 64 4 := (Gs4 64 4 rfl).trans rfl
  have es4_3 : s4 98 16 = s0 98 16 := (Gs4 98 16 rfl).trans rfl
  have es4_4 : s4 90 2 = s0 90 2 := (Gs4 90 2 rfl).trans rfl
  have es4_5 : s4 98 29 = s0 98 29 := (Gs4 98 29 rfl).trans rfl
  have es4_6 : s4 10 10 = s0 10 10 := (Gs4 10 10 rfl).trans rfl
  have es4_7 : s4 99 43 = s0 99 43 := (Gs4 99 43 rfl).trans rfl
  clear hz2
  refine h_pop (pc' := 416) rfl rfl rfl ?_
  clear hr3
  refine h_aload_n (pc' := 417) rfl rfl rfl ?_
  refine h_aload_n (pc' := 418) rfl rfl rfl ?_
  refine h_iload_n (pc' := 419) rfl rfl rfl ?_
  refine h_iconst (pc' := 420) (x := (Int32.ofInt 1)) rfl rfl rfl ?_
  refine h_iadd (pc' := 421) rfl rfl hy3 ci_1 rfl (by omega) (by omega) (fun z5 hz5 => ?_)
  refine h_iald (pc' := 422) (v := s0 0 (b3 + 1)) rfl rfl rfl hz5 (by omega) (by omega) (Zs4 _) (fun z6 hz6 => ?_)
  have tz6 := h_rgv hz6
  clear hz5
  refine h_call (sp := false) (pc' := 425) (M := [(0, .ref 98), (1, .int z6)]) rfl rfl rfl rfl rfl rfl rfl rfl ?_
  refine w_174_98 _ Is4 z6 _ hz6 (fun r7 br7 hr7 s8 Is8 Gs8 tr7 => h_Kv ?_)
  have Zs8 : ∀ i, s8 0 i = s0 0 i := fun i => (Gs8 0 i rfl).trans (Zs4 i)
  have Fs8 : h_F (fun _ _ => true) s8 s0 := fun _ _ h => by cases h
  have es8_0 : s8 64 1 = s0 64 1 := (Gs8 64 1 rfl).trans es4_0
  have es8_1 : s8 98 11 = s0 98 11 := (Gs8 98 11 rfl).trans es4_1
  have es8_2 : s8 64 4 = s0 64 4 := (Gs8 64 4 rfl).trans es4_2
  have es8_3 : s8 98 16 = s0 98 16 := (Gs8 98 16 rfl).trans es4_3
  have es8_4 : s8 90 2 = s0 90 2 := (Gs8 90 2 rfl).trans es4_4
  have es8_5 : s8 98 29 = s0 98 29 := (Gs8 98 29 rfl).trans es4_5
  have es8_6 : s8 10 10 = s0 10 10 := (Gs8 10 10 rfl).trans es4_6
  have es8_7 : s8 99 43 = s0 99 43 := (Gs8 99 43 rfl).trans es4_7
  clear es4_0 es4_1 es4_2 es4_3 es4_4 es4_5 es4_6 es4_7
  clear hz6
  refine h_pop (pc' := 426) rfl rfl rfl ?_
  clear hr7
  refine h_goto (pc' := 1441) rfl rfl ?_
  exact kk _ Is8 (by first | exact d_tape.le j0 (Int.le_antisymm (by omega) (by omega)) (by omega) (fun j => (Gs8 65 j rfl).trans ((Gs4 65 j rfl))) (fun j => (Gs8 102 j rfl).trans ((Gs4 102 j rfl))) | (exfalso; omega)) (Int.le_antisymm (by omega) (by omega)) (c_R.fr (c_R.fr j2 I0 Gs4 rfl) Is4 Gs8 rfl) (g_ti.e j3 ((funext (fun j => Gs8 100 j rfl)).trans (funext (fun j => Gs4 100 j rfl)))) (g_SH.e j4 ((funext (fun j => Gs8 94 j rfl)).trans (funext (fun j => Gs4 94 j rfl))) ((funext (fun j => Gs8 95 j rfl)).trans (funext (fun j => Gs4 95 j rfl))) ((funext (fun j => Gs8 96 j rfl)).trans (funext (fun j => Gs4 96 j rfl))) ((funext (fun j => Gs8 111 j rfl)).trans (funext (fun j => Gs4 111 j rfl))) ((funext (fun j => Gs8 112 j rfl)).trans (funext (fun j => Gs4 112 j rfl))) ((funext (fun j => Gs8 113 j rfl)).trans (funext (fun j => Gs4 113 j rfl)))) (Int.le_antisymm (by omega) (by omega))
