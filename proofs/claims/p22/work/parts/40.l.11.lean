set_option maxHeartbeats 100000000 in
theorem g_case_759 {ns : Nat} (hns : ns ≤ 320) (s0 : h_S) (I0 : h_I s0) (j0 : d_tape s0 s0) (j1 : s0 64 4 = s0 98 16) (j2 : c_R true s0) (j3 : g_ti s0) (j4 : g_SH s0) (y3 : Int32) (b3 : Int) (hy3 : y3.toInt = b3) (hr : 0 ≤ b3 ∧ b3 + 5 ≤ ns) {Q : Option Value → h_S → Prop} (kk : ∀ τ, h_I τ → (d_tape τ τ) → (τ 64 4 = τ 98 16) → (c_R true τ) → (g_ti τ) → (g_SH τ) → h_T g_P (g_Y ns) 225 1441 [(0, .ref 0), (1, .ref 9), (2, .ref 98), (3, .int y3)] [] τ Q) : h_T g_P (g_Y ns) 225 759 [(0, .ref 0), (1, .ref 9), (2, .ref 98), (3, .int y3)] [] s0 Q := by
  have F0_ : h_F (fun _ _ => true) s0 s0 := h_F.rf
  have j0_ := j0.2
  have i0 := tf_64_1 I0
  have i1 := tf_98_11 I0
  have i2 := tf_64_4 I0
  have i3 := tf_98_16 I0
  refine h_aload_n (pc' := 760) rfl rfl rfl ?_
  refine h_aload_n (pc' := 761) rfl rfl rfl ?_
  refine h_iload_n (pc' := 762) rfl rfl rfl ?_
  refine h_iconst (pc' := 763) (x := (Int32.ofInt 1)) rfl rfl rfl ?_
  refine h_iadd (pc' := 764) rfl rfl hy3 ci_1 rfl (by omega) (by omega) (fun z1 hz1 => ?_)
  refine h_iald (pc' := 765) (v := s0 0 (b3 + 1)) rfl rfl rfl hz1 (by omega) (by omega) rfl (fun z2 hz2 => ?_)
  have tz2 := h_rgv hz2
  clear hz1
  refine h_call (sp := false) (pc' := 768) (M := [(0, .ref 9), (1, .int z2)]) rfl rfl rfl rfl rfl rfl rfl rfl ?_
  refine w_101_9 _ I0 z2 _ hz2 (fun r3 br3 hr3 s4 Is4 Gs4 => h_Kv ?_)
  have Zs4 : ∀ i, s4 0 i = s0 0 i := fun i => (Gs4 0 i rfl).trans rfl
  have Fs4 : h_F (fun _ _ => true) s4 s0 := fun _ _ h => by cases h
  have es4_0 : s4 64 1 = s0 64 1 := (Gs4 64 1 rfl).trans rfl
  have es4_1 : s4 98 11 = s0 98 11 := (Gs4 98 11 rfl).trans rfl
  have es4_2 : s4 64 4 = s0 64 4 := (Gs4 64 4 rfl).trans rfl
  have es4_3 : s4 98 16 = s0 98 16 := (Gs4 98 16 rfl).trans rfl
  clear hz2
  refine h_pop (pc' := 769) rfl rfl rfl ?_
  clear hr3
  refine h_aload_n (pc' := 770) rfl rfl rfl ?_
  refine h_aload_n (pc' := 771) rfl rfl rfl ?_
  refine h_iload_n (pc' := 772) rfl rfl rfl ?_
  refine h_iconst (pc' := 773) (x := (Int32.ofInt 1)) rfl rfl rfl ?_
  refine h_iadd (pc' := 774) rfl rfl hy3 ci_1 rfl (by omega) (by omega) (fun z5 hz5 => ?_)
  refine h_iald (pc' := 775) (v := s0 0 (b3 + 1)) rfl rfl rfl hz5 (by omega) (by omega) (Zs4 _) (fun z6 hz6 => ?_)
  have tz6 := h_rgv hz6
  clear hz5
  refine h_call (sp := false) (pc' := 778) (M := [(0, .ref 98), (1, .int z6)]) rfl rfl rfl rfl rfl rfl rfl rfl ?_
  refine w_194_98 _ Is4 z6 _ hz6 (fun r7 br7 hr7 s8 Is8 Gs8 => h_Kv ?_)
  have Zs8 : ∀ i, s8 0 i = s0 0 i := fun i => (Gs8 0 i rfl).trans (Zs4 i)
  have Fs8 : h_F (fun _ _ => true) s8 s0 := fun _ _ h => by cases h
  have es8_0 : s8 64 1 = s0 64 1 := (Gs8 64 1 rfl).trans es4_0
  have es8_1 : s8 98 11 = s0 98 11 := (Gs8 98 11 rfl).trans es4_1
  have es8_2 : s8 64 4 = s0 64 4 := (Gs8 64 4 rfl).trans es4_2
  have es8_3 : s8 98 16 = s0 98 16 := (Gs8 98 16 rfl).trans es4_3
  clear es4_0 es4_1 es4_2 es4_3
  clear hz6
  refine h_pop (pc' := 779) rfl rfl rfl ?_
  clear hr7
  refine h_goto (pc' := 1441) rfl rfl ?_
  exact kk _ Is8 (by first | exact d_tape.le j0 (Int.le_antisymm (by omega) (by omega)) (by omega) (fun j => (Gs8 65 j rfl).trans ((Gs4 65 j rfl))) (fun j => (Gs8 102 j rfl).trans ((Gs4 102 j rfl))) | (exfalso; omega)) (Int.le_antisymm (by omega) (by omega)) (c_R.fr (c_R.fr j2 I0 Gs4 rfl) Is4 Gs8 rfl) (g_ti.e j3 ((funext (fun j => Gs8 100 j rfl)).trans (funext (fun j => Gs4 100 j rfl)))) (g_SH.e j4 ((funext (fun j => Gs8 94 j rfl)).trans (funext (fun j => Gs4 94 j rfl))) ((funext (fun j => Gs8 95 j rfl)).trans (funext (fun j => Gs4 95 j rfl))) ((funext (fun j => Gs8 96 j rfl)).trans (funext (fun j => Gs4 96 j rfl))) ((funext (fun j => Gs8 111 j rfl)).trans (funext (fun j => Gs4 111 j rfl))) ((funext (fun j => Gs8 112 j rfl)).trans (funext (fun j => Gs4 112 j rfl))) ((funext (fun j => Gs8 113 j rfl)).trans (funext (fun j => Gs4 113 j rfl))))
set_option maxHeartbeats 100000000 in
theorem g_case_782 {ns : Nat} (hns : ns ≤ 320) (s0 : h_S) (I0 : h_I s0) (j0 : d_tape s0 s0) (j1 : s0 64 4 = s0 98 16) (j2 : c_R true s0) (j3 : g_ti s0) (j4 : g_SH s0) (y3 : Int32) (b3 : Int) (hy3 : y3.toInt = b3) (hr : 0 ≤ b3 ∧ b3 + 5 ≤ ns) {Q : Option Value → h_S → Prop} (kk : ∀ τ, h_I τ → (d_tape τ τ) → (τ 64 4 = τ 98 16) → (c_R true τ) → (g_ti τ) → (g_SH τ) → h_T g_P (g_Y ns) 225 1441 [(0, .ref 0), (1, .ref 9), (2, .ref 98), (3, .int y3)] [] τ Q) : h_T g_P (g_Y ns) 225 782 [(0, .ref 0), (1, .ref 9), (2, .ref 98), (3, .int y3)] [] s0 Q := by
  have F0_ : h_F (fun _ _ => true) s0 s0 := h_F.rf
  have j0_ := j0.2
  have i0 := tf_64_1 I0
  have i1 := tf_98_11 I0
  have i2 := tf_64_4 I0
  have i3 := tf_98_16 I0
  have i4 := tf_10_9 I0
  have i5 := tf_98_2 I0
  have j2_ := j2.sz
  refine h_aload_n (pc' := 783) rfl rfl rfl ?_
  refine h_aload_n (pc' := 784) rfl rfl rfl ?_
  refine h_iload_n (pc' := 785) rfl rfl rfl ?_
  refine h_iconst (pc' := 786) (x := (Int32.ofInt 1)) rfl rfl rfl ?_
  refine h_iadd (pc' := 787) rfl rfl hy3 ci_1 rfl (by omega) (by omega) (fun z1 hz1 => ?_)
  refine h_iald (pc' := 788) (v := s0 0 (b3 + 1)) rfl rfl rfl hz1 (by omega) (by omega) rfl (fun z2 hz2 => ?_)
  have tz2 := h_rgv hz2
  clear hz1
  refine h_call (sp := false) (pc' := 791) (M := [(0, .ref 9), (1, .int z2)]) rfl rfl rfl rfl rfl rfl rfl rfl ?_
  refine h_aload_n (pc' := 1) rfl rfl rfl ?_
  refine h_getR (pc' := 4) rfl rfl rfl rfl rfl ?_
  refine h_iload_n (pc' := 5) rfl rfl rfl ?_
  refine h_call (sp := false) (pc' := 8) (M := [(0, .ref 10), (1, .int z2)]) rfl rfl rfl rfl rfl rfl rfl rfl ?_
  refine h_iload_n (pc' := 1) rfl rfl rfl ?_
  refine h_zlt (tg := 16) (pc' := 4) rfl rfl rfl hz2 (fun c3 => ?_) (fun c3 => ?_)
  · refine h_iconst (pc' := 17) (x := (Int32.ofInt 0)) rfl rfl rfl ?_
    refine h_zret rfl rfl ci_0 (by omega) (h_Kv ?_)
    refine h_zne (tg := 13) (pc' := 11) rfl rfl rfl ci_0 (fun c4 => absurd (Int.le_antisymm (by omega) (by omega)) c4) (fun c4 => ?_)
    refine h_iconst (pc' := 12) (x := (Int32.ofInt (-1))) rfl rfl rfl ?_
    refine h_iret rfl rfl (h_Kv ?_)
    clear hz2
    refine h_aload_n (pc' := 792) rfl rfl rfl ?_
    refine h_aload_n (pc' := 793) rfl rfl rfl ?_
    refine h_iload_n (pc' := 794) rfl rfl rfl ?_
    refine h_iconst (pc' := 795) (x := (Int32.ofInt 1)) rfl rfl rfl ?_
    refine h_iadd (pc' := 796) rfl rfl hy3 ci_1 rfl (by omega) (by omega) (fun z5 hz5 => ?_)
    refine h_iald (pc' := 797) (v := s0 0 (b3 + 1)) rfl rfl rfl hz5 (by omega) (by omega) rfl (fun z6 hz6 => ?_)
    have tz6 := h_rgv hz6
    clear hz5
    refine h_call (sp := false) (pc' := 800) (M := [(0, .ref 98), (1, .int z6)]) rfl rfl rfl rfl rfl rfl rfl rfl ?_
    refine h_aload_n (pc' := 1) rfl rfl rfl ?_
    refine h_iload_n (pc' := 2) rfl rfl rfl ?_
    refine h_call (sp := false) (pc' := 5) (M := [(0, .ref 98), (1, .int z6)]) rfl rfl rfl rfl rfl rfl rfl rfl ?_
    refine h_iload_n (pc' := 1) rfl rfl rfl ?_
    refine h_i2l (pc' := 2) rfl rfl hz6 (fun z7 hz7 => ?_)
    refine h_lconst (pc' := 3) (x := (Int64.ofInt 0)) rfl rfl rfl ?_
    refine h_aload_n (pc' := 4) rfl rfl rfl ?_
    refine h_getI (pc' := 7) (v := s0 98 2) rfl rfl rfl rfl rfl rfl (fun z8 hz8 => ?_)
    have tz8 := tf_98_2 I0
    refine h_iconst (pc' := 8) (x := (Int32.ofInt 1)) rfl rfl rfl ?_
    refine h_isub (pc' := 9) rfl rfl hz8 ci_1 rfl (by omega) (by omega) (fun z9 hz9 => ?_)
    clear hz8
    refine h_i2l (pc' := 10) rfl rfl hz9 (fun z10 hz10 => ?_)
    clear hz9
    refine h_calls (pc' := 13) (M := [(0, .long z7), (2, .long (Int64.ofInt 0)), (4, .long z10)]) rfl rfl rfl rfl rfl rfl ?_
    refine h_lload_n (pc' := 1) rfl rfl rfl ?_
    refine h_lload_n (pc' := 2) rfl rfl rfl ?_
    refine h_lcmp (pc' := 3) rfl rfl hz7 cl_0 (fun z11 hz11 => ?_)
    refine h_zlt (tg := 17) (pc' := 6) rfl rfl rfl rfl (fun c12 => ?_) (fun c12 => absurd c12 (by omega))
    replace c12 := (h_lcr hz11).1 c12
    clear hz11
    refine h_iconst (pc' := 18) (x := (Int32.ofInt 0)) rfl rfl rfl ?_
    refine h_zret rfl rfl ci_0 (by omega) (h_Kv ?_)
    clear hz10 hz7
    refine h_zret rfl rfl ci_0 (by omega) (h_Kv ?_)
    refine h_zne (tg := 10) (pc' := 8) rfl rfl rfl ci_0 (fun c13 => absurd (Int.le_antisymm (by omega) (by omega)) c13) (fun c13 => ?_)
    refine h_iconst (pc' := 9) (x := (Int32.ofInt (-1))) rfl rfl rfl ?_
    refine h_iret rfl rfl (h_Kv ?_)
    clear hz6
    refine h_ceq (tg := 1441) (pc' := 803) rfl rfl rfl ci_m1 ci_m1 (fun c14 => ?_) (fun c14 => absurd (Int.le_antisymm (by omega) (by omega)) c14)
    exact kk _ I0 (by first | exact d_tape.le j0 (Int.le_antisymm (by omega) (by omega)) (by omega) (fun j => rfl) (fun j => rfl) | (exfalso; omega)) (Int.le_antisymm (by omega) (by omega)) j2 (g_ti.e j3 rfl) (g_SH.e j4 rfl rfl rfl rfl rfl rfl)
  · refine h_iload_n (pc' := 5) rfl rfl rfl ?_
    refine h_aload_n (pc' := 6) rfl rfl rfl ?_
    refine h_getI (pc' := 9) (v := s0 10 9) rfl rfl rfl rfl rfl rfl (fun z15 hz15 => ?_)
    have tz15 := tf_10_9 I0
    refine h_cge (tg := 16) (pc' := 12) rfl rfl rfl hz2 hz15 (fun c16 => ?_) (fun c16 => ?_)
    · clear hz15
      refine h_iconst (pc' := 17) (x := (Int32.ofInt 0)) rfl rfl rfl ?_
      refine h_zret rfl rfl ci_0 (by omega) (h_Kv ?_)
      refine h_zne (tg := 13) (pc' := 11) rfl rfl rfl ci_0 (fun c17 => absurd (Int.le_antisymm (by omega) (by omega)) c17) (fun c17 => ?_)
      refine h_iconst (pc' := 12) (x := (Int32.ofInt (-1))) rfl rfl rfl ?_
      refine h_iret rfl rfl (h_Kv ?_)
      clear hz2
      refine h_aload_n (pc' := 792) rfl rfl rfl ?_
      refine h_aload_n (pc' := 793) rfl rfl rfl ?_
      refine h_iload_n (pc' := 794) rfl rfl rfl ?_
      refine h_iconst (pc' := 795) (x := (Int32.ofInt 1)) rfl rfl rfl ?_
      refine h_iadd (pc' := 796) rfl rfl hy3 ci_1 rfl (by omega) (by omega) (fun z18 hz18 => ?_)
      refine h_iald (pc' := 797) (v := s0 0 (b3 + 1)) rfl rfl rfl hz18 (by omega) (by omega) rfl (fun z19 hz19 => ?_)
      have tz19 := h_rgv hz19
      clear hz18
      refine h_call (sp := false) (pc' := 800) (M := [(0, .ref 98), (1, .int z19)]) rfl rfl rfl rfl rfl rfl rfl rfl ?_
      refine h_aload_n (pc' := 1) rfl rfl rfl ?_
      refine h_iload_n (pc' := 2) rfl rfl rfl ?_
      refine h_call (sp := false) (pc' := 5) (M := [(0, .ref 98), (1, .int z19)]) rfl rfl rfl rfl rfl rfl rfl rfl ?_
      refine h_iload_n (pc' := 1) rfl rfl rfl ?_
      refine h_i2l (pc' := 2) rfl rfl hz19 (fun z20 hz20 => ?_)
      refine h_lconst (pc' := 3) (x := (Int64.ofInt 0)) rfl rfl rfl ?_
      refine h_aload_n (pc' := 4) rfl rfl rfl ?_
      refine h_getI (pc' := 7) (v := s0 98 2) rfl rfl rfl rfl rfl rfl (fun z21 hz21 => ?_)
      have tz21 := tf_98_2 I0
      refine h_iconst (pc' := 8) (x := (Int32.ofInt 1)) rfl rfl rfl ?_
      refine h_isub (pc' := 9) rfl rfl hz21 ci_1 rfl (by omega) (by omega) (fun z22 hz22 => ?_)
      clear hz21
      refine h_i2l (pc' := 10) rfl rfl hz22 (fun z23 hz23 => ?_)
      clear hz22
      refine h_calls (pc' := 13) (M := [(0, .long z20), (2, .long (Int64.ofInt 0)), (4, .long z23)]) rfl rfl rfl rfl rfl rfl ?_
      refine h_lload_n (pc' := 1) rfl rfl rfl ?_
      refine h_lload_n (pc' := 2) rfl rfl rfl ?_
      refine h_lcmp (pc' := 3) rfl rfl hz20 cl_0 (fun z24 hz24 => ?_)
      refine h_zlt (tg := 17) (pc' := 6) rfl rfl rfl rfl (fun c25 => absurd c25 (by omega)) (fun c25 => ?_)
      replace c25 := (h_lcr hz24).2.1 c25
      clear hz24
      refine h_lload_n (pc' := 7) rfl rfl rfl ?_
      refine h_lload (pc' := 9) rfl rfl rfl ?_
      refine h_lcmp (pc' := 10) rfl rfl hz20 hz23 (fun z26 hz26 => ?_)
      refine h_zgt (tg := 17) (pc' := 13) rfl rfl rfl rfl (fun c27 => ?_) (fun c27 => absurd c27 (by omega))
      replace c27 := (h_lcr hz26).2.2.2.1 c27
      clear hz26
      refine h_iconst (pc' := 18) (x := (Int32.ofInt 0)) rfl rfl rfl ?_
      refine h_zret rfl rfl ci_0 (by omega) (h_Kv ?_)
      clear hz20 hz23
      refine h_zret rfl rfl ci_0 (by omega) (h_Kv ?_)
      refine h_zne (tg := 10) (pc' := 8) rfl rfl rfl ci_0 (fun c28 => absurd (Int.le_antisymm (by omega) (by omega)) c28) (fun c28 => ?_)
      refine h_iconst (pc' := 9) (x := (Int32.ofInt (-1))) rfl rfl rfl ?_
      refine h_iret rfl rfl (h_Kv ?_)
      clear hz19
      refine h_ceq (tg := 1441) (pc' := 803) rfl rfl rfl ci_m1 ci_m1 (fun c29 => ?_) (fun c29 => absurd (Int.le_antisymm (by omega) (by omega)) c29)
      exact kk _ I0 (by first | exact d_tape.le j0 (Int.le_antisymm (by omega) (by omega)) (by omega) (fun j => rfl) (fun j => rfl) | (exfalso; omega)) (Int.le_antisymm (by omega) (by omega)) j2 (g_ti.e j3 rfl) (g_SH.e j4 rfl rfl rfl rfl rfl rfl)
    · clear hz15
      refine h_iconst (pc' := 13) (x := (Int32.ofInt 1)) rfl rfl rfl ?_
      refine h_goto (pc' := 17) rfl rfl ?_
      refine h_zret rfl rfl ci_1 (by omega) (h_Kv ?_)
      refine h_zne (tg := 13) (pc' := 11) rfl rfl rfl ci_1 (fun c30 => ?_) (fun c30 => absurd c30 (by omega))
      refine h_aload_n (pc' := 14) rfl rfl rfl ?_
      refine h_aload_n (pc' := 15) rfl rfl rfl ?_
      refine h_getR (pc' := 18) rfl rfl rfl rfl rfl ?_
      refine h_call (sp := false) (pc' := 21) (M := [(0, .ref 9), (1, .ref 10)]) rfl rfl rfl rfl rfl rfl rfl rfl ?_
      refine h_aload_n (pc' := 1) rfl rfl rfl ?_
      refine h_getR (pc' := 4) rfl rfl rfl rfl rfl ?_
      refine h_aload_n (pc' := 5) rfl rfl rfl ?_
      refine h_call (sp := false) (pc' := 8) (M := [(0, .ref 79), (1, .ref 10)]) rfl rfl rfl rfl rfl rfl rfl rfl ?_
      refine n_measure_10 _ I0  (fun s32 Is32 Gs32 ps32_0 ps32_1 ps32_2 => h_Kn ?_)
      have Zs32 : ∀ i, s32 0 i = s0 0 i := fun i => (Gs32 0 i rfl).trans rfl
      have Fs32 : h_F (fun _ _ => true) s32 s0 := fun _ _ h => by cases h
      have es32_0 : s32 64 1 = s0 64 1 := (Gs32 64 1 rfl).trans rfl
      have es32_1 : s32 98 11 = s0 98 11 := (Gs32 98 11 rfl).trans rfl
      have es32_2 : s32 64 4 = s0 64 4 := (Gs32 64 4 rfl).trans rfl
      have es32_3 : s32 98 16 = s0 98 16 := (Gs32 98 16 rfl).trans rfl
      have es32_4 : s32 10 9 = s0 10 9 := (Gs32 10 9 rfl).trans rfl
      have es32_5 : s32 98 2 = s0 98 2 := (Gs32 98 2 rfl).trans rfl
      refine h_aload_n (pc' := 9) rfl rfl rfl ?_
      refine h_getR (pc' := 12) rfl rfl rfl rfl rfl ?_
      refine h_aload_n (pc' := 13) rfl rfl rfl ?_
      refine h_aload_n (pc' := 14) rfl rfl rfl ?_
      refine h_getR (pc' := 17) rfl rfl rfl rfl rfl ?_
      refine h_call (sp := false) (pc' := 20) (M := [(0, .ref 82), (1, .ref 10), (2, .ref 79)]) rfl rfl rfl rfl rfl rfl rfl rfl ?_
      refine n_open_10 _ Is32  (fun s34 Is34 Gs34 ps34_0 => h_Kn ?_)
      have Zs34 : ∀ i, s34 0 i = s0 0 i := fun i => (Gs34 0 i rfl).trans (Zs32 i)
      have Fs34 : h_F (fun _ _ => true) s34 s0 := fun _ _ h => by cases h
      have es34_0 : s34 64 1 = s0 64 1 := (Gs34 64 1 rfl).trans es32_0
      have es34_1 : s34 98 11 = s0 98 11 := (Gs34 98 11 rfl).trans es32_1
      have es34_2 : s34 64 4 = s0 64 4 := (Gs34 64 4 rfl).trans es32_2
      have es34_3 : s34 98 16 = s0 98 16 := (Gs34 98 16 rfl).trans es32_3
      have es34_4 : s34 10 9 = s0 10 9 := (Gs34 10 9 rfl).trans es32_4
      have es34_5 : s34 98 2 = s0 98 2 := (Gs34 98 2 rfl).trans es32_5
      refine h_vret rfl rfl (h_Kn ?_)
      refine h_aload_n (pc' := 22) rfl rfl rfl ?_
      refine h_getR (pc' := 25) rfl rfl rfl rfl rfl ?_
      refine h_aload_n (pc' := 26) rfl rfl rfl ?_
      refine h_getR (pc' := 29) rfl rfl rfl rfl rfl ?_
      refine h_iconst (pc' := 30) (x := (Int32.ofInt 0)) rfl rfl rfl ?_
      refine h_call (sp := false) (pc' := 33) (M := [(0, .ref 82), (1, .ref 10), (2, .int (Int32.ofInt 0))]) rfl rfl rfl rfl rfl rfl rfl rfl ?_
      refine n_run_10 _ Is34 (Int32.ofInt 0) _ ci_0 (g_op_t ps34_0 (ps32_1.trans ((Gs34 10 8 rfl).trans (Gs32 10 8 rfl)).symm) (funext (fun j => Gs34 80 j rfl)).symm (funext (fun j => Gs34 81 j rfl)).symm (funext (fun j => Gs34 19 j rfl)).symm (Gs34 10 9 rfl).symm rfl) (c_R.runl j2 ((Gs34 10 8 rfl).trans (Gs32 10 8 rfl)) ((Gs34 10 9 rfl).trans (Gs32 10 9 rfl)) ((funext (fun j => Gs34 20 j rfl)).trans (funext (fun j => Gs32 20 j rfl)))) (c_R.runp j2 ((Gs34 10 8 rfl).trans (Gs32 10 8 rfl)) ((Gs34 10 9 rfl).trans (Gs32 10 9 rfl)) ((Gs34 10 10 rfl).trans (Gs32 10 10 rfl)) ((funext (fun j => Gs34 22 j rfl)).trans (funext (fun j => Gs32 22 j rfl)))) (fun r35 br35 hr35 s36 Is36 Gs36 ps36_0 => h_Kv ?_)
      have Zs36 : ∀ i, s36 0 i = s0 0 i := fun i => (Gs36 0 i rfl).trans (Zs34 i)
      have Fs36 : h_F (fun _ _ => true) s36 s0 := fun _ _ h => by cases h
      have es36_0 : s36 64 1 = s0 64 1 := (Gs36 64 1 rfl).trans es34_0
      have es36_1 : s36 98 11 = s0 98 11 := (Gs36 98 11 rfl).trans es34_1
      have es36_2 : s36 64 4 = s0 64 4 := (Gs36 64 4 rfl).trans es34_2
      have es36_3 : s36 98 16 = s0 98 16 := (Gs36 98 16 rfl).trans es34_3
      have es36_4 : s36 10 9 = s0 10 9 := (Gs36 10 9 rfl).trans es34_4
      have es36_5 : s36 98 2 = s0 98 2 := (Gs36 98 2 rfl).trans es34_5
      refine h_pop (pc' := 34) rfl rfl rfl ?_
      clear hr35
      refine h_aload_n (pc' := 35) rfl rfl rfl ?_
      refine h_getR (pc' := 38) rfl rfl rfl rfl rfl ?_
      refine h_getR (pc' := 41) rfl rfl rfl rfl rfl ?_
      refine h_iload_n (pc' := 42) rfl rfl rfl ?_
      refine h_iald (pc' := 43) (v := s36 84 (s0 0 (b3 + 1))) rfl rfl rfl hz2 (by omega) (by omega) rfl (fun z37 hz37 => ?_)
      have tz37 := ty_84 Is36 (s0 0 (b3 + 1))
      refine h_iret rfl rfl (h_Kv ?_)
      clear hz2
      refine h_aload_n (pc' := 792) rfl rfl rfl ?_
      refine h_aload_n (pc' := 793) rfl rfl rfl ?_
      refine h_iload_n (pc' := 794) rfl rfl rfl ?_
      refine h_iconst (pc' := 795) (x := (Int32.ofInt 1)) rfl rfl rfl ?_
      refine h_iadd (pc' := 796) rfl rfl hy3 ci_1 rfl (by omega) (by omega) (fun z38 hz38 => ?_)
      refine h_iald (pc' := 797) (v := s0 0 (b3 + 1)) rfl rfl rfl hz38 (by omega) (by omega) (Zs36 _) (fun z39 hz39 => ?_)
      have tz39 := h_rgv hz39
      clear hz38
      refine h_call (sp := false) (pc' := 800) (M := [(0, .ref 98), (1, .int z39)]) rfl rfl rfl rfl rfl rfl rfl rfl ?_
      refine h_aload_n (pc' := 1) rfl rfl rfl ?_
      refine h_iload_n (pc' := 2) rfl rfl rfl ?_
      refine h_call (sp := false) (pc' := 5) (M := [(0, .ref 98), (1, .int z39)]) rfl rfl rfl rfl rfl rfl rfl rfl ?_
      refine h_iload_n (pc' := 1) rfl rfl rfl ?_
      refine h_i2l (pc' := 2) rfl rfl hz39 (fun z40 hz40 => ?_)
      refine h_lconst (pc' := 3) (x := (Int64.ofInt 0)) rfl rfl rfl ?_
      refine h_aload_n (pc' := 4) rfl rfl rfl ?_
      refine h_getI (pc' := 7) (v := s0 98 2) rfl rfl rfl rfl rfl es36_5 (fun z41 hz41 => ?_)
      have tz41 := tf_98_2 I0
      refine h_iconst (pc' := 8) (x := (Int32.ofInt 1)) rfl rfl rfl ?_
      refine h_isub (pc' := 9) rfl rfl hz41 ci_1 rfl (by omega) (by omega) (fun z42 hz42 => ?_)
      clear hz41
      refine h_i2l (pc' := 10) rfl rfl hz42 (fun z43 hz43 => ?_)
      clear hz42
      refine h_calls (pc' := 13) (M := [(0, .long z40), (2, .long (Int64.ofInt 0)), (4, .long z43)]) rfl rfl rfl rfl rfl rfl ?_
      refine h_lload_n (pc' := 1) rfl rfl rfl ?_
      refine h_lload_n (pc' := 2) rfl rfl rfl ?_
      refine h_lcmp (pc' := 3) rfl rfl hz40 cl_0 (fun z44 hz44 => ?_)
      refine h_zlt (tg := 17) (pc' := 6) rfl rfl rfl rfl (fun c45 => absurd c45 (by omega)) (fun c45 => ?_)
      replace c45 := (h_lcr hz44).2.1 c45
      clear hz44
      refine h_lload_n (pc' := 7) rfl rfl rfl ?_
      refine h_lload (pc' := 9) rfl rfl rfl ?_
      refine h_lcmp (pc' := 10) rfl rfl hz40 hz43 (fun z46 hz46 => ?_)
      refine h_zgt (tg := 17) (pc' := 13) rfl rfl rfl rfl (fun c47 => absurd c47 (by omega)) (fun c47 => ?_)
      replace c47 := (h_lcr hz46).2.2.1 c47
      clear hz46
      refine h_iconst (pc' := 14) (x := (Int32.ofInt 1)) rfl rfl rfl ?_
      refine h_goto (pc' := 18) rfl rfl ?_
      refine h_zret rfl rfl ci_1 (by omega) (h_Kv ?_)
      clear hz40 hz43
      refine h_zret rfl rfl ci_1 (by omega) (h_Kv ?_)
      refine h_zne (tg := 10) (pc' := 8) rfl rfl rfl ci_1 (fun c48 => ?_) (fun c48 => absurd c48 (by omega))
      refine h_aload_n (pc' := 11) rfl rfl rfl ?_
      refine h_iconst (pc' := 12) (x := (Int32.ofInt 0)) rfl rfl rfl ?_
      refine h_iconst (pc' := 13) (x := (Int32.ofInt 0)) rfl rfl rfl ?_
      refine h_call (sp := false) (pc' := 16) (M := [(0, .ref 98), (1, .int (Int32.ofInt 0)), (2, .int (Int32.ofInt 0))]) rfl rfl rfl rfl rfl rfl rfl rfl ?_
      refine n_plan0 _ Is36  (Int32.ofInt 0) _ ci_0 (c_R.runm j2 I0 ((funext (fun j => Gs36 99 j rfl)).trans ((funext (fun j => Gs34 99 j rfl)).trans (funext (fun j => Gs32 99 j rfl))))) (fun s50 Is50 Gs50 ps50_0 ps50_1 => h_Kn ?_)
      have Zs50 : ∀ i, s50 0 i = s0 0 i := fun i => (Gs50 0 i rfl).trans (Zs36 i)
      have Fs50 : h_F (fun _ _ => true) s50 s0 := fun _ _ h => by cases h
      have es50_0 : s50 64 1 = s0 64 1 := (Gs50 64 1 rfl).trans es36_0
      have es50_1 : s50 98 11 = s0 98 11 := (Gs50 98 11 rfl).trans es36_1
      have es50_2 : s50 64 4 = s0 64 4 := (Gs50 64 4 rfl).trans es36_2
      have es50_3 : s50 98 16 = s0 98 16 := (Gs50 98 16 rfl).trans es36_3
      have es50_4 : s50 10 9 = s0 10 9 := (Gs50 10 9 rfl).trans es36_4
      have es50_5 : s50 98 2 = s0 98 2 := (Gs50 98 2 rfl).trans es36_5
      refine h_aload_n (pc' := 17) rfl rfl rfl ?_
      refine h_getR (pc' := 20) rfl rfl rfl rfl rfl ?_
      refine h_sipush (pc' := 23) (x := (Int32.ofInt 161)) rfl rfl cs_161 ?_
      refine h_iload_n (pc' := 24) rfl rfl rfl ?_
      refine h_iadd (pc' := 25) rfl rfl ci_161 hz39 rfl (by have g0 := h_rgv hz39; omega) (by have g0 := h_rgv hz39; omega) (fun z51 hz51 => ?_)
      refine h_iald (pc' := 26) (v := s50 99 (161 + (s0 0 (b3 + 1)))) rfl rfl rfl hz51 (by omega) (by omega) rfl (fun z52 hz52 => ?_)
      have tz52 := ty_99_7 Is50 (161 + (s0 0 (b3 + 1))) (by omega)
      clear hz51
      refine h_calls (pc' := 29) (M := [(0, .int z52)]) rfl rfl rfl rfl rfl rfl ?_
      refine h_iload_n (pc' := 1) rfl rfl rfl ?_
      refine h_zne (tg := 9) (pc' := 4) rfl rfl rfl hz52 (fun c53 => ?_) (fun c53 => ?_)
      · refine h_iload_n (pc' := 10) rfl rfl rfl ?_
        refine h_iconst (pc' := 11) (x := (Int32.ofInt 1)) rfl rfl rfl ?_
        refine h_isub (pc' := 12) rfl rfl hz52 ci_1 rfl (by omega) (by omega) (fun z54 hz54 => ?_)
        refine h_iret rfl rfl (h_Kv ?_)
        clear hz52
        refine h_iret rfl rfl (h_Kv ?_)
        clear hz39
        refine h_ceq (tg := 1441) (pc' := 803) rfl rfl rfl hz37 hz54 (fun c55 => ?_) (fun c55 => ?_)
        · clear hz37 hz54
          exact kk _ Is50 (by first | exact d_tape.le j0 (Int.le_antisymm (by omega) (by omega)) (by omega) (fun j => (Gs50 65 j rfl).trans ((Gs36 65 j rfl).trans ((Gs34 65 j rfl).trans ((Gs32 65 j rfl))))) (fun j => (Gs50 102 j rfl).trans ((Gs36 102 j rfl).trans ((Gs34 102 j rfl).trans ((Gs32 102 j rfl))))) | (exfalso; omega)) (Int.le_antisymm (by omega) (by omega)) (c_R.fr (c_R.fr (c_R.fr (c_R.fr j2 I0 Gs32 rfl) Is32 Gs34 rfl) Is34 Gs36 rfl) Is36 Gs50 rfl) (g_ti.e j3 ((funext (fun j => Gs50 100 j rfl)).trans ((funext (fun j => Gs36 100 j rfl)).trans ((funext (fun j => Gs34 100 j rfl)).trans (funext (fun j => Gs32 100 j rfl)))))) (g_SH.e j4 ((funext (fun j => Gs50 94 j rfl)).trans ((funext (fun j => Gs36 94 j rfl)).trans ((funext (fun j => Gs34 94 j rfl)).trans (funext (fun j => Gs32 94 j rfl))))) ((funext (fun j => Gs50 95 j rfl)).trans ((funext (fun j => Gs36 95 j rfl)).trans ((funext (fun j => Gs34 95 j rfl)).trans (funext (fun j => Gs32 95 j rfl))))) ((funext (fun j => Gs50 96 j rfl)).trans ((funext (fun j => Gs36 96 j rfl)).trans ((funext (fun j => Gs34 96 j rfl)).trans (funext (fun j => Gs32 96 j rfl))))) ((funext (fun j => Gs50 111 j rfl)).trans ((funext (fun j => Gs36 111 j rfl)).trans ((funext (fun j => Gs34 111 j rfl)).trans (funext (fun j => Gs32 111 j rfl))))) ((funext (fun j => Gs50 112 j rfl)).trans ((funext (fun j => Gs36 112 j rfl)).trans ((funext (fun j => Gs34 112 j rfl)).trans (funext (fun j => Gs32 112 j rfl))))) ((funext (fun j => Gs50 113 j rfl)).trans ((funext (fun j => Gs36 113 j rfl)).trans ((funext (fun j => Gs34 113 j rfl)).trans (funext (fun j => Gs32 113 j rfl))))))
        · clear hz37 hz54
          refine h_iconst (pc' := 804) (x := (Int32.ofInt 0)) rfl rfl rfl ?_
          have ga := (c_R.runR j2 I0 j3 (g_DX_f (g_DX_t ps32_0 rfl rfl rfl rfl rfl rfl) (funext (fun j => Gs34 80 j rfl))) (g_FX_t ps32_2 rfl rfl rfl rfl (funext (fun j => Gs34 81 j rfl))) ((Gs34 10 8 rfl).trans (Gs32 10 8 rfl)) ((Gs34 10 9 rfl).trans (Gs32 10 9 rfl)) ((Gs34 10 10 rfl).trans (Gs32 10 10 rfl)) ((funext (fun j => Gs34 19 j rfl)).trans (funext (fun j => Gs32 19 j rfl))) ((funext (fun j => Gs34 20 j rfl)).trans (funext (fun j => Gs32 20 j rfl))) ((funext (fun j => Gs34 22 j rfl)).trans (funext (fun j => Gs32 22 j rfl))) ps36_0 Is36 ((Gs36 98 1 rfl).trans ((Gs34 98 1 rfl).trans (Gs32 98 1 rfl))) ((funext (fun j => Gs36 99 j rfl)).trans ((funext (fun j => Gs34 99 j rfl)).trans (funext (fun j => Gs32 99 j rfl)))) ((funext (fun j => Gs36 100 j rfl)).trans ((funext (fun j => Gs34 100 j rfl)).trans (funext (fun j => Gs32 100 j rfl)))) ps50_0 ps50_1 Is50).1 (s0 0 (b3 + 1)) (by omega) (by omega)
          have gb := g_orn_d (s50 99 (161 + (s0 0 (b3 + 1))))
          exfalso
          omega
      · refine h_bipush (pc' := 6) (x := (Int32.ofInt (-4))) rfl rfl cb_m4 ?_
        refine h_goto (pc' := 12) rfl rfl ?_
        refine h_iret rfl rfl (h_Kv ?_)
        clear hz52
        refine h_iret rfl rfl (h_Kv ?_)
        clear hz39
        refine h_ceq (tg := 1441) (pc' := 803) rfl rfl rfl hz37 ci_m4 (fun c56 => ?_) (fun c56 => ?_)
        · clear hz37
          exact kk _ Is50 (by first | exact d_tape.le j0 (Int.le_antisymm (by omega) (by omega)) (by omega) (fun j => (Gs50 65 j rfl).trans ((Gs36 65 j rfl).trans ((Gs34 65 j rfl).trans ((Gs32 65 j rfl))))) (fun j => (Gs50 102 j rfl).trans ((Gs36 102 j rfl).trans ((Gs34 102 j rfl).trans ((Gs32 102 j rfl))))) | (exfalso; omega)) (Int.le_antisymm (by omega) (by omega)) (c_R.fr (c_R.fr (c_R.fr (c_R.fr j2 I0 Gs32 rfl) Is32 Gs34 rfl) Is34 Gs36 rfl) Is36 Gs50 rfl) (g_ti.e j3 ((funext (fun j => Gs50 100 j rfl)).trans ((funext (fun j => Gs36 100 j rfl)).trans ((funext (fun j => Gs34 100 j rfl)).trans (funext (fun j => Gs32 100 j rfl)))))) (g_SH.e j4 ((funext (fun j => Gs50 94 j rfl)).trans ((funext (fun j => Gs36 94 j rfl)).trans ((funext (fun j => Gs34 94 j rfl)).trans (funext (fun j => Gs32 94 j rfl))))) ((funext (fun j => Gs50 95 j rfl)).trans ((funext (fun j => Gs36 95 j rfl)).trans ((funext (fun j => Gs34 95 j rfl)).trans (funext (fun j => Gs32 95 j rfl))))) ((funext (fun j => Gs50 96 j rfl)).trans ((funext (fun j => Gs36 96 j rfl)).trans ((funext (fun j => Gs34 96 j rfl)).trans (funext (fun j => Gs32 96 j rfl))))) ((funext (fun j => Gs50 111 j rfl)).trans ((funext (fun j => Gs36 111 j rfl)).trans ((funext (fun j => Gs34 111 j rfl)).trans (funext (fun j => Gs32 111 j rfl))))) ((funext (fun j => Gs50 112 j rfl)).trans ((funext (fun j => Gs36 112 j rfl)).trans ((funext (fun j => Gs34 112 j rfl)).trans (funext (fun j => Gs32 112 j rfl))))) ((funext (fun j => Gs50 113 j rfl)).trans ((funext (fun j => Gs36 113 j rfl)).trans ((funext (fun j => Gs34 113 j rfl)).trans (funext (fun j => Gs32 113 j rfl))))))
        · clear hz37
          refine h_iconst (pc' := 804) (x := (Int32.ofInt 0)) rfl rfl rfl ?_
          have ga := (c_R.runR j2 I0 j3 (g_DX_f (g_DX_t ps32_0 rfl rfl rfl rfl rfl rfl) (funext (fun j => Gs34 80 j rfl))) (g_FX_t ps32_2 rfl rfl rfl rfl (funext (fun j => Gs34 81 j rfl))) ((Gs34 10 8 rfl).trans (Gs32 10 8 rfl)) ((Gs34 10 9 rfl).trans (Gs32 10 9 rfl)) ((Gs34 10 10 rfl).trans (Gs32 10 10 rfl)) ((funext (fun j => Gs34 19 j rfl)).trans (funext (fun j => Gs32 19 j rfl))) ((funext (fun j => Gs34 20 j rfl)).trans (funext (fun j => Gs32 20 j rfl))) ((funext (fun j => Gs34 22 j rfl)).trans (funext (fun j => Gs32 22 j rfl))) ps36_0 Is36 ((Gs36 98 1 rfl).trans ((Gs34 98 1 rfl).trans (Gs32 98 1 rfl))) ((funext (fun j => Gs36 99 j rfl)).trans ((funext (fun j => Gs34 99 j rfl)).trans (funext (fun j => Gs32 99 j rfl)))) ((funext (fun j => Gs36 100 j rfl)).trans ((funext (fun j => Gs34 100 j rfl)).trans (funext (fun j => Gs32 100 j rfl)))) ps50_0 ps50_1 Is50).1 (s0 0 (b3 + 1)) (by omega) (by omega)
          have gb := g_orn_d (s50 99 (161 + (s0 0 (b3 + 1))))
          exfalso
          omega
set_option maxHeartbeats 100000000 in
theorem g_case_805 {ns : Nat} (hns : ns ≤ 320) (s0 : h_S) (I0 : h_I s0) (j0 : d_tape s0 s0) (j1 : s0 64 4 = s0 98 16) (j2 : c_R true s0) (j3 : g_ti s0) (j4 : g_SH s0) (y3 : Int32) (b3 : Int) (hy3 : y3.toInt = b3) (hr : 0 ≤ b3 ∧ b3 + 5 ≤ ns) {Q : Option Value → h_S → Prop} (kk : ∀ τ, h_I τ → (d_tape τ τ) → (τ 64 4 = τ 98 16) → (c_R true τ) → (g_ti τ) → (g_SH τ) → h_T g_P (g_Y ns) 225 1441 [(0, .ref 0), (1, .ref 9), (2, .ref 98), (3, .int y3)] [] τ Q) : h_T g_P (g_Y ns) 225 805 [(0, .ref 0), (1, .ref 9), (2, .ref 98), (3, .int y3)] [] s0 Q := by
  have F0_ : h_F (fun _ _ => true) s0 s0 := h_F.rf
  have j0_ := j0.2
  have i0 := tf_64_1 I0
  have i1 := tf_98_11 I0
  have i2 := tf_64_4 I0
  have i3 := tf_98_16 I0
  refine h_aload_n (pc' := 806) rfl rfl rfl ?_
  refine h_aload_n (pc' := 807) rfl rfl rfl ?_
  refine h_iload_n (pc' := 808) rfl rfl rfl ?_
  refine h_iconst (pc' := 809) (x := (Int32.ofInt 1)) rfl rfl rfl ?_
  refine h_iadd (pc' := 810) rfl rfl hy3 ci_1 rfl (by omega) (by omega) (fun z1 hz1 => ?_)
  refine h_iald (pc' := 811) (v := s0 0 (b3 + 1)) rfl rfl rfl hz1 (by omega) (by omega) rfl (fun z2 hz2 => ?_)
  have tz2 := h_rgv hz2
  clear hz1
  refine h_aload_n (pc' := 812) rfl rfl rfl ?_
  refine h_iload_n (pc' := 813) rfl rfl rfl ?_
  refine h_iconst (pc' := 814) (x := (Int32.ofInt 2)) rfl rfl rfl ?_
  refine h_iadd (pc' := 815) rfl rfl hy3 ci_2 rfl (by omega) (by omega) (fun z3 hz3 => ?_)
  refine h_iald (pc' := 816) (v := s0 0 (b3 + 2)) rfl rfl rfl hz3 (by omega) (by omega) rfl (fun z4 hz4 => ?_)
  have tz4 := h_rgv hz4
  clear hz3
  refine h_call (sp := false) (pc' := 819) (M := [(0, .ref 9), (1, .int z2), (2, .int z4)]) rfl rfl rfl rfl rfl rfl rfl rfl ?_
  refine w_103_9 _ I0 z2 _ hz2 z4 _ hz4 (fun r5 br5 hr5 s6 Is6 Gs6 => h_Kv ?_)
  have Zs6 : ∀ i, s6 0 i = s0 0 i := fun i => (Gs6 0 i rfl).trans rfl
  have Fs6 : h_F (fun _ _ => true) s6 s0 := fun _ _ h => by cases h
  have es6_0 : s6 64 1 = s0 64 1 := (Gs6 64 1 rfl).trans rfl
  have es6_1 : s6 98 11 = s0 98 11 := (Gs6 98 11 rfl).trans rfl
  have es6_2 : s6 64 4 = s0 64 4 := (Gs6 64 4 rfl).trans rfl
  have es6_3 : s6 98 16 = s0 98 16 := (Gs6 98 16 rfl).trans rfl
  clear hz2 hz4
  refine h_pop (pc' := 820) rfl rfl rfl ?_
  clear hr5
  refine h_aload_n (pc' := 821) rfl rfl rfl ?_
  refine h_aload_n (pc' := 822) rfl rfl rfl ?_
  refine h_iload_n (pc' := 823) rfl rfl rfl ?_
  refine h_iconst (pc' := 824) (x := (Int32.ofInt 1)) rfl rfl rfl ?_
  refine h_iadd (pc' := 825) rfl rfl hy3 ci_1 rfl (by omega) (by omega) (fun z7 hz7 => ?_)
  refine h_iald (pc' := 826) (v := s0 0 (b3 + 1)) rfl rfl rfl hz7 (by omega) (by omega) (Zs6 _) (fun z8 hz8 => ?_)
  have tz8 := h_rgv hz8
  clear hz7
  refine h_aload_n (pc' := 827) rfl rfl rfl ?_
  refine h_iload_n (pc' := 828) rfl rfl rfl ?_
  refine h_iconst (pc' := 829) (x := (Int32.ofInt 2)) rfl rfl rfl ?_
  refine h_iadd (pc' := 830) rfl rfl hy3 ci_2 rfl (by omega) (by omega) (fun z9 hz9 => ?_)
  refine h_iald (pc' := 831) (v := s0 0 (b3 + 2)) rfl rfl rfl hz9 (by omega) (by omega) (Zs6 _) (fun z10 hz10 => ?_)
  have tz10 := h_rgv hz10
  clear hz9
  refine h_call (sp := false) (pc' := 834) (M := [(0, .ref 98), (1, .int z8), (2, .int z10)]) rfl rfl rfl rfl rfl rfl rfl rfl ?_
  refine w_199_98 _ Is6 z8 _ hz8 z10 _ hz10 (fun r11 br11 hr11 s12 Is12 Gs12 => h_Kv ?_)
  have Zs12 : ∀ i, s12 0 i = s0 0 i := fun i => (Gs12 0 i rfl).trans (Zs6 i)
  have Fs12 : h_F (fun _ _ => true) s12 s0 := fun _ _ h => by cases h
  have es12_0 : s12 64 1 = s0 64 1 := (Gs12 64 1 rfl).trans es6_0
  have es12_1 : s12 98 11 = s0 98 11 := (Gs12 98 11 rfl).trans es6_1
  have es12_2 : s12 64 4 = s0 64 4 := (Gs12 64 4 rfl).trans es6_2
  have es12_3 : s12 98 16 = s0 98 16 := (Gs12 98 16 rfl).trans es6_3
  clear es6_0 es6_1 es6_2 es6_3
  clear hz10 hz8
  refine h_pop (pc' := 835) rfl rfl rfl ?_
  clear hr11
  refine h_goto (pc' := 1441) rfl rfl ?_
  exact kk _ Is12 (by first | exact d_tape.le j0 (Int.le_antisymm (by omega) (by omega)) (by omega) (fun j => (Gs12 65 j rfl).trans ((Gs6 65 j rfl))) (fun j => (Gs12 102 j rfl).trans ((Gs6 102 j rfl))) | (exfalso; omega)) (Int.le_antisymm (by omega) (by omega)) (c_R.fr (c_R.fr j2 I0 Gs6 rfl) Is6 Gs12 rfl) (g_ti.e j3 ((funext (fun j => Gs12 100 j rfl)).trans (funext (fun j => Gs6 100 j rfl)))) (g_SH.e j4 ((funext (fun j => Gs12 94 j rfl)).trans (funext (fun j => Gs6 94 j rfl))) ((funext (fun j => Gs12 95 j rfl)).trans (funext (fun j => Gs6 95 j rfl))) ((funext (fun j => Gs12 96 j rfl)).trans (funext (fun j => Gs6 96 j rfl))) ((funext (fun j => Gs12 111 j rfl)).trans (funext (fun j => Gs6 111 j rfl))) ((funext (fun j => Gs12 112 j rfl)).trans (funext (fun j => Gs6 112 j rfl))) ((funext (fun j => Gs12 113 j rfl)).trans (funext (fun j => Gs6 113 j rfl))))
