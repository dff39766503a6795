set_option maxHeartbeats 100000000 in
theorem g_case_1075 {ns : Nat} (hns : ns ≤ 320) (s0 : h_S) (I0 : h_I s0) (j0 : d_tape s0 s0) (j1 : s0 64 4 = s0 98 16) (j2 : c_R true s0) (j3 : g_ti s0) (j4 : g_SH s0) (j5 : s0 90 2 = s0 98 29) (j6 : g_WS s0) (y3 : Int32) (b3 : Int) (hy3 : y3.toInt = b3) (hr : 0 ≤ b3 ∧ b3 + 5 ≤ ns) {Q : Option Value → h_S → Prop} (kk : ∀ τ, h_I τ → (d_tape τ τ) → (τ 64 4 = τ 98 16) → (c_R true τ) → (g_ti τ) → (g_SH τ) → (τ 90 2 = τ 98 29) → (g_WS τ) → h_T g_P (g_Y ns) 225 1441 [(0, .ref 0), (1, .ref 9), (2, .ref 98), (3, .int y3)] [] τ Q) : h_T g_P (g_Y ns) 225 1075 [(0, .ref 0), (1, .ref 9), (2, .ref 98), (3, .int y3)] [] s0 Q := by
  have F0_ : h_F (fun _ _ => true) s0 s0 := h_F.rf
  have j0_ := j0.2
  have i0 := tf_64_1 I0
  have i1 := tf_98_11 I0
  have i2 := tf_64_4 I0
  have i3 := tf_98_16 I0
  have i4 := tf_90_2 I0
  have i5 := tf_98_29 I0
  refine h_aload_n (pc' := 1076) rfl rfl rfl ?_
  refine h_aload_n (pc' := 1077) rfl rfl rfl ?_
  refine h_iload_n (pc' := 1078) rfl rfl rfl ?_
  refine h_iconst (pc' := 1079) (x := (Int32.ofInt 1)) rfl rfl rfl ?_
  refine h_iadd (pc' := 1080) rfl rfl hy3 ci_1 rfl (by omega) (by omega) (fun z1 hz1 => ?_)
  refine h_iald (pc' := 1081) (v := s0 0 (b3 + 1)) rfl rfl rfl hz1 (by omega) (by omega) rfl (fun z2 hz2 => ?_)
  have tz2 := h_rgv hz2
  clear hz1
  refine h_call (sp := false) (pc' := 1084) (M := [(0, .ref 9), (1, .int z2)]) rfl rfl rfl rfl rfl rfl rfl rfl ?_
  refine h_iload_n (pc' := 1) rfl rfl rfl ?_
  refine h_zlt (tg := 15) (pc' := 4) rfl rfl rfl hz2 (fun c3 => ?_) (fun c3 => ?_)
  · refine h_iconst (pc' := 16) (x := (Int32.ofInt (-1))) rfl rfl rfl ?_
    refine h_iret rfl rfl (h_Kv ?_)
    clear hz2
    refine h_pop (pc' := 1085) rfl rfl rfl ?_
    refine h_aload_n (pc' := 1086) rfl rfl rfl ?_
    refine h_aload_n (pc' := 1087) rfl rfl rfl ?_
    refine h_iload_n (pc' := 1088) rfl rfl rfl ?_
    refine h_iconst (pc' := 1089) (x := (Int32.ofInt 1)) rfl rfl rfl ?_
    refine h_iadd (pc' := 1090) rfl rfl hy3 ci_1 rfl (by omega) (by omega) (fun z4 hz4 => ?_)
    refine h_iald (pc' := 1091) (v := s0 0 (b3 + 1)) rfl rfl rfl hz4 (by omega) (by omega) rfl (fun z5 hz5 => ?_)
    have tz5 := h_rgv hz5
    clear hz4
    refine h_call (sp := false) (pc' := 1094) (M := [(0, .ref 98), (1, .int z5)]) rfl rfl rfl rfl rfl rfl rfl rfl ?_
    refine h_iload_n (pc' := 1) rfl rfl rfl ?_
    refine h_i2l (pc' := 2) rfl rfl hz5 (fun z6 hz6 => ?_)
    refine h_lconst (pc' := 3) (x := (Int64.ofInt 0)) rfl rfl rfl ?_
    refine h_aload_n (pc' := 4) rfl rfl rfl ?_
    refine h_getI (pc' := 7) (v := s0 98 29) rfl rfl rfl rfl rfl rfl (fun z7 hz7 => ?_)
    have tz7 := tf_98_29 I0
    refine h_i2l (pc' := 8) rfl rfl hz7 (fun z8 hz8 => ?_)
    clear hz7
    refine h_calls (pc' := 11) (M := [(0, .long z6), (2, .long (Int64.ofInt 0)), (4, .long z8)]) rfl rfl rfl rfl rfl rfl ?_
    refine h_lload_n (pc' := 1) rfl rfl rfl ?_
    refine h_lload_n (pc' := 2) rfl rfl rfl ?_
    refine h_lcmp (pc' := 3) rfl rfl hz6 cl_0 (fun z9 hz9 => ?_)
    refine h_zlt (tg := 17) (pc' := 6) rfl rfl rfl rfl (fun c10 => ?_) (fun c10 => absurd c10 (by omega))
    replace c10 := (h_lcr hz9).1 c10
    clear hz9
    refine h_iconst (pc' := 18) (x := (Int32.ofInt 0)) rfl rfl rfl ?_
    refine h_zret rfl rfl ci_0 (by omega) (h_Kv ?_)
    clear hz6 hz8
    refine h_zne (tg := 16) (pc' := 14) rfl rfl rfl ci_0 (fun c11 => absurd (Int.le_antisymm (by omega) (by omega)) c11) (fun c11 => ?_)
    refine h_iconst (pc' := 15) (x := (Int32.ofInt (-1))) rfl rfl rfl ?_
    refine h_iret rfl rfl (h_Kv ?_)
    clear hz5
    refine h_pop (pc' := 1095) rfl rfl rfl ?_
    refine h_goto (pc' := 1441) rfl rfl ?_
    exact kk _ I0 (by first | exact d_tape.le j0 (Int.le_antisymm (by omega) (by omega)) (by omega) (fun j => rfl) (fun j => rfl) | (exfalso; omega)) (Int.le_antisymm (by omega) (by omega)) j2 (g_ti.e j3 rfl) (g_SH.e j4 rfl rfl rfl rfl rfl rfl) (Int.le_antisymm (by omega) (by omega)) (g_WS.le j6 (by omega) rfl rfl rfl)
  · refine h_iload_n (pc' := 5) rfl rfl rfl ?_
    refine h_aload_n (pc' := 6) rfl rfl rfl ?_
    refine h_getR (pc' := 9) rfl rfl rfl rfl rfl ?_
    refine h_getI (pc' := 12) (v := s0 90 2) rfl rfl rfl rfl rfl rfl (fun z12 hz12 => ?_)
    have tz12 := tf_90_2 I0
    refine h_cle (tg := 17) (pc' := 15) rfl rfl rfl hz2 hz12 (fun c13 => ?_) (fun c13 => ?_)
    · clear hz12
      refine h_aload_n (pc' := 18) rfl rfl rfl ?_
      refine h_getR (pc' := 21) rfl rfl rfl rfl rfl ?_
      refine h_getI (pc' := 24) (v := s0 90 2) rfl rfl rfl rfl rfl rfl (fun z14 hz14 => ?_)
      refine h_istore_n (pc' := 25) (M := [(2, .int z14), (0, .ref 9), (1, .int z2)]) rfl rfl rfl rfl ?_
      refine h_aload_n (pc' := 26) rfl rfl rfl ?_
      refine h_getR (pc' := 29) rfl rfl rfl rfl rfl ?_
      refine h_iload_n (pc' := 30) rfl rfl rfl ?_
      refine h_put (pc' := 33) rfl rfl rfl rfl rfl rfl hz2 rfl (h_fgt (E := fun s => s 64 1 = s0 64 1 ∧ s 98 11 = s0 98 11 ∧ s 64 4 = s0 64 4 ∧ s 98 16 = s0 98 16 ∧ s 90 2 = (s0 0 (b3 + 1)) ∧ s 98 29 = s0 98 29 ∧ s = h_up s0 90 2 (s0 0 (b3 + 1))) _ (if_90_2 I0 (by omega)) (F0_.up rfl) ⟨rfl, rfl, rfl, rfl, rfl, rfl, rfl⟩ (fun s15 Is15 Fs15 (es15 : s15 64 1 = s0 64 1 ∧ s15 98 11 = s0 98 11 ∧ s15 64 4 = s0 64 4 ∧ s15 98 16 = s0 98 16 ∧ s15 90 2 = (s0 0 (b3 + 1)) ∧ s15 98 29 = s0 98 29 ∧ s15 = h_up s0 90 2 (s0 0 (b3 + 1))) => ?_))
      have us15 := es15.2.2.2.2.2.2
      have Zs15 : ∀ i, s15 0 i = s0 0 i := fun i => (h_upo us15 rfl i).trans rfl
      refine h_iload_n (pc' := 34) rfl rfl rfl ?_
      refine h_iret rfl rfl (h_Kv ?_)
      refine h_pop (pc' := 1085) rfl rfl rfl ?_
      clear hz14
      refine h_aload_n (pc' := 1086) rfl rfl rfl ?_
      refine h_aload_n (pc' := 1087) rfl rfl rfl ?_
      refine h_iload_n (pc' := 1088) rfl rfl rfl ?_
      refine h_iconst (pc' := 1089) (x := (Int32.ofInt 1)) rfl rfl rfl ?_
      refine h_iadd (pc' := 1090) rfl rfl hy3 ci_1 rfl (by omega) (by omega) (fun z16 hz16 => ?_)
      refine h_iald (pc' := 1091) (v := s0 0 (b3 + 1)) rfl rfl rfl hz16 (by omega) (by omega) (Zs15 _) (fun z17 hz17 => ?_)
      have tz17 := h_rgv hz17
      clear hz16
      refine h_call (sp := false) (pc' := 1094) (M := [(0, .ref 98), (1, .int z17)]) rfl rfl rfl rfl rfl rfl rfl rfl ?_
      refine h_iload_n (pc' := 1) rfl rfl rfl ?_
      refine h_i2l (pc' := 2) rfl rfl hz17 (fun z18 hz18 => ?_)
      refine h_lconst (pc' := 3) (x := (Int64.ofInt 0)) rfl rfl rfl ?_
      refine h_aload_n (pc' := 4) rfl rfl rfl ?_
      refine h_getI (pc' := 7) (v := s0 98 29) rfl rfl rfl rfl rfl es15.2.2.2.2.2.1 (fun z19 hz19 => ?_)
      have tz19 := tf_98_29 I0
      refine h_i2l (pc' := 8) rfl rfl hz19 (fun z20 hz20 => ?_)
      clear hz19
      refine h_calls (pc' := 11) (M := [(0, .long z18), (2, .long (Int64.ofInt 0)), (4, .long z20)]) rfl rfl rfl rfl rfl rfl ?_
      refine h_lload_n (pc' := 1) rfl rfl rfl ?_
      refine h_lload_n (pc' := 2) rfl rfl rfl ?_
      refine h_lcmp (pc' := 3) rfl rfl hz18 cl_0 (fun z21 hz21 => ?_)
      refine h_zlt (tg := 17) (pc' := 6) rfl rfl rfl rfl (fun c22 => absurd c22 (by omega)) (fun c22 => ?_)
      replace c22 := (h_lcr hz21).2.1 c22
      clear hz21
      refine h_lload_n (pc' := 7) rfl rfl rfl ?_
      refine h_lload (pc' := 9) rfl rfl rfl ?_
      refine h_lcmp (pc' := 10) rfl rfl hz18 hz20 (fun z23 hz23 => ?_)
      refine h_zgt (tg := 17) (pc' := 13) rfl rfl rfl rfl (fun c24 => absurd c24 (by omega)) (fun c24 => ?_)
      replace c24 := (h_lcr hz23).2.2.1 c24
      clear hz23
      refine h_iconst (pc' := 14) (x := (Int32.ofInt 1)) rfl rfl rfl ?_
      refine h_goto (pc' := 18) rfl rfl ?_
      refine h_zret rfl rfl ci_1 (by omega) (h_Kv ?_)
      clear hz18 hz20
      refine h_zne (tg := 16) (pc' := 14) rfl rfl rfl ci_1 (fun c25 => ?_) (fun c25 => absurd c25 (by omega))
      refine h_aload_n (pc' := 17) rfl rfl rfl ?_
      refine h_getI (pc' := 20) (v := s0 98 29) rfl rfl rfl rfl rfl es15.2.2.2.2.2.1 (fun z26 hz26 => ?_)
      refine h_istore_n (pc' := 21) (M := [(2, .int z26), (0, .ref 98), (1, .int z17)]) rfl rfl rfl rfl ?_
      refine h_aload_n (pc' := 22) rfl rfl rfl ?_
      refine h_iload_n (pc' := 23) rfl rfl rfl ?_
      refine h_put (pc' := 26) rfl rfl rfl rfl rfl rfl hz17 rfl (h_fgt (E := fun s => s 64 1 = s0 64 1 ∧ s 98 11 = s0 98 11 ∧ s 64 4 = s0 64 4 ∧ s 98 16 = s0 98 16 ∧ s 90 2 = (s0 0 (b3 + 1)) ∧ s 98 29 = (s0 0 (b3 + 1)) ∧ s = h_up s15 98 29 (s0 0 (b3 + 1))) _ (if_98_29 Is15 (by omega)) (Fs15.up rfl) ⟨es15.1, es15.2.1, es15.2.2.1, es15.2.2.2.1, es15.2.2.2.2.1, rfl, rfl⟩ (fun s27 Is27 Fs27 (es27 : s27 64 1 = s0 64 1 ∧ s27 98 11 = s0 98 11 ∧ s27 64 4 = s0 64 4 ∧ s27 98 16 = s0 98 16 ∧ s27 90 2 = (s0 0 (b3 + 1)) ∧ s27 98 29 = (s0 0 (b3 + 1)) ∧ s27 = h_up s15 98 29 (s0 0 (b3 + 1))) => ?_))
      clear es15
      have us27 := es27.2.2.2.2.2.2
      have Zs27 : ∀ i, s27 0 i = s0 0 i := fun i => (h_upo us27 rfl i).trans (Zs15 i)
      refine h_iload_n (pc' := 27) rfl rfl rfl ?_
      refine h_iret rfl rfl (h_Kv ?_)
      refine h_pop (pc' := 1095) rfl rfl rfl ?_
      clear hz26
      refine h_goto (pc' := 1441) rfl rfl ?_
      exact kk _ Is27 (by first | exact d_tape.le j0 (Int.le_antisymm (by omega) (by omega)) (by omega) (fun j => (h_upo us27 rfl j).trans ((h_upo us15 rfl j))) (fun j => (h_upo us27 rfl j).trans ((h_upo us15 rfl j))) | (exfalso; omega)) (Int.le_antisymm (by omega) (by omega)) (c_R.up98 (c_R.up j2 I0 us15 rfl) Is15 us27 (by decide) (by decide)) (g_ti.e j3 ((h_upg us27 rfl).trans (h_upg us15 rfl))) (g_SH.e j4 ((h_upg us27 rfl).trans (h_upg us15 rfl)) ((h_upg us27 rfl).trans (h_upg us15 rfl)) ((h_upg us27 rfl).trans (h_upg us15 rfl)) ((h_upg us27 rfl).trans (h_upg us15 rfl)) ((h_upg us27 rfl).trans (h_upg us15 rfl)) ((h_upg us27 rfl).trans (h_upg us15 rfl))) (Int.le_antisymm (by omega) (by omega)) (g_WS.le j6 (by omega) ((h_upg us27 rfl).trans (h_upg us15 rfl)) ((h_upg us27 rfl).trans (h_upg us15 rfl)) ((h_upg us27 rfl).trans (h_upg us15 rfl)))
    · clear hz12
      refine h_iconst (pc' := 16) (x := (Int32.ofInt (-1))) rfl rfl rfl ?_
      refine h_iret rfl rfl (h_Kv ?_)
      clear hz2
      refine h_pop (pc' := 1085) rfl rfl rfl ?_
      refine h_aload_n (pc' := 1086) rfl rfl rfl ?_
      refine h_aload_n (pc' := 1087) rfl rfl rfl ?_
      refine h_iload_n (pc' := 1088) rfl rfl rfl ?_
      refine h_iconst (pc' := 1089) (x := (Int32.ofInt 1)) rfl rfl rfl ?_
      refine h_iadd (pc' := 1090) rfl rfl hy3 ci_1 rfl (by omega) (by omega) (fun z28 hz28 => ?_)
      refine h_iald (pc' := 1091) (v := s0 0 (b3 + 1)) rfl rfl rfl hz28 (by omega) (by omega) rfl (fun z29 hz29 => ?_)
      have tz29 := h_rgv hz29
      clear hz28
      refine h_call (sp := false) (pc' := 1094) (M := [(0, .ref 98), (1, .int z29)]) rfl rfl rfl rfl rfl rfl rfl rfl ?_
      refine h_iload_n (pc' := 1) rfl rfl rfl ?_
      refine h_i2l (pc' := 2) rfl rfl hz29 (fun z30 hz30 => ?_)
      refine h_lconst (pc' := 3) (x := (Int64.ofInt 0)) rfl rfl rfl ?_
      refine h_aload_n (pc' := 4) rfl rfl rfl ?_
      refine h_getI (pc' := 7) (v := s0 98 29) rfl rfl rfl rfl rfl rfl (fun z31 hz31 => ?_)
      have tz31 := tf_98_29 I0
      refine h_i2l (pc' := 8) rfl rfl hz31 (fun z32 hz32 => ?_)
      clear hz31
      refine h_calls (pc' := 11) (M := [(0, .long z30), (2, .long (Int64.ofInt 0)), (4, .long z32)]) rfl rfl rfl rfl rfl rfl ?_
      refine h_lload_n (pc' := 1) rfl rfl rfl ?_
      refine h_lload_n (pc' := 2) rfl rfl rfl ?_
      refine h_lcmp (pc' := 3) rfl rfl hz30 cl_0 (fun z33 hz33 => ?_)
      refine h_zlt (tg := 17) (pc' := 6) rfl rfl rfl rfl (fun c34 => absurd c34 (by omega)) (fun c34 => ?_)
      replace c34 := (h_lcr hz33).2.1 c34
      clear hz33
      refine h_lload_n (pc' := 7) rfl rfl rfl ?_
      refine h_lload (pc' := 9) rfl rfl rfl ?_
      refine h_lcmp (pc' := 10) rfl rfl hz30 hz32 (fun z35 hz35 => ?_)
      refine h_zgt (tg := 17) (pc' := 13) rfl rfl rfl rfl (fun c36 => ?_) (fun c36 => absurd c36 (by omega))
      replace c36 := (h_lcr hz35).2.2.2.1 c36
      clear hz35
      refine h_iconst (pc' := 18) (x := (Int32.ofInt 0)) rfl rfl rfl ?_
      refine h_zret rfl rfl ci_0 (by omega) (h_Kv ?_)
      clear hz30 hz32
      refine h_zne (tg := 16) (pc' := 14) rfl rfl rfl ci_0 (fun c37 => absurd (Int.le_antisymm (by omega) (by omega)) c37) (fun c37 => ?_)
      refine h_iconst (pc' := 15) (x := (Int32.ofInt (-1))) rfl rfl rfl ?_
      refine h_iret rfl rfl (h_Kv ?_)
      clear hz29
      refine h_pop (pc' := 1095) rfl rfl rfl ?_
      refine h_goto (pc' := 1441) rfl rfl ?_
      exact kk _ I0 (by first | exact d_tape.le j0 (Int.le_antisymm (by omega) (by omega)) (by omega) (fun j => rfl) (fun j => rfl) | (exfalso; omega)) (Int.le_antisymm (by omega) (by omega)) j2 (g_ti.e j3 rfl) (g_SH.e j4 rfl rfl rfl rfl rfl rfl) (Int.le_antisymm (by omega) (by omega)) (g_WS.le j6 (by omega) rfl rfl rfl)
set_option maxHeartbeats 100000000 in
theorem g_case_1098 {ns : Nat} (hns : ns ≤ 320) (s0 : h_S) (I0 : h_I s0) (j0 : d_tape s0 s0) (j1 : s0 64 4 = s0 98 16) (j2 : c_R true s0) (j3 : g_ti s0) (j4 : g_SH s0) (j5 : s0 90 2 = s0 98 29) (j6 : g_WS s0) (y3 : Int32) (b3 : Int) (hy3 : y3.toInt = b3) (hr : 0 ≤ b3 ∧ b3 + 5 ≤ ns) {Q : Option Value → h_S → Prop} (kk : ∀ τ, h_I τ → (d_tape τ τ) → (τ 64 4 = τ 98 16) → (c_R true τ) → (g_ti τ) → (g_SH τ) → (τ 90 2 = τ 98 29) → (g_WS τ) → h_T g_P (g_Y ns) 225 1441 [(0, .ref 0), (1, .ref 9), (2, .ref 98), (3, .int y3)] [] τ Q) : h_T g_P (g_Y ns) 225 1098 [(0, .ref 0), (1, .ref 9), (2, .ref 98), (3, .int y3)] [] s0 Q := by
  have F0_ : h_F (fun _ _ => true) s0 s0 := h_F.rf
  have j0_ := j0.2
  have i0 := tf_64_1 I0
  have i1 := tf_98_11 I0
  have i2 := tf_64_4 I0
  have i3 := tf_98_16 I0
  have i4 := tf_90_2 I0
  have i5 := tf_98_29 I0
  have i6 := tf_10_8 I0
  have i7 := tf_98_1 I0
  have j2_ := j2.sz
  refine h_aload_n (pc' := 1099) rfl rfl rfl ?_
  refine h_aload_n (pc' := 1100) rfl rfl rfl ?_
  refine h_iload_n (pc' := 1101) rfl rfl rfl ?_
  refine h_iconst (pc' := 1102) (x := (Int32.ofInt 1)) rfl rfl rfl ?_
  refine h_iadd (pc' := 1103) rfl rfl hy3 ci_1 rfl (by omega) (by omega) (fun z1 hz1 => ?_)
  refine h_iald (pc' := 1104) (v := s0 0 (b3 + 1)) rfl rfl rfl hz1 (by omega) (by omega) rfl (fun z2 hz2 => ?_)
  have tz2 := h_rgv hz2
  clear hz1
  refine h_call (sp := false) (pc' := 1107) (M := [(0, .ref 9), (1, .int z2)]) rfl rfl rfl rfl rfl rfl rfl rfl ?_
  refine h_aload_n (pc' := 1) rfl rfl rfl ?_
  refine h_getR (pc' := 4) rfl rfl rfl rfl rfl ?_
  refine h_iload_n (pc' := 5) rfl rfl rfl ?_
  refine h_call (sp := false) (pc' := 8) (M := [(0, .ref 10), (1, .int z2)]) rfl rfl rfl rfl rfl rfl rfl rfl ?_
  refine h_iload_n (pc' := 1) rfl rfl rfl ?_
  refine h_zlt (tg := 16) (pc' := 4) rfl rfl rfl hz2 (fun c3 => ?_) (fun c3 => ?_)
  · refine h_iconst (pc' := 17) (x := (Int32.ofInt 0)) rfl rfl rfl ?_
    refine h_zret rfl rfl ci_0 (by omega) (h_Kv ?_)
    refine h_zeq (tg := 19) (pc' := 11) rfl rfl rfl ci_0 (fun c4 => ?_) (fun c4 => absurd (Int.le_antisymm (by omega) (by omega)) c4)
    refine h_iconst (pc' := 20) (x := (Int32.ofInt (-1))) rfl rfl rfl ?_
    refine h_iret rfl rfl (h_Kv ?_)
    clear hz2
    refine h_aload_n (pc' := 1108) rfl rfl rfl ?_
    refine h_aload_n (pc' := 1109) rfl rfl rfl ?_
    refine h_iload_n (pc' := 1110) rfl rfl rfl ?_
    refine h_iconst (pc' := 1111) (x := (Int32.ofInt 1)) rfl rfl rfl ?_
    refine h_iadd (pc' := 1112) rfl rfl hy3 ci_1 rfl (by omega) (by omega) (fun z5 hz5 => ?_)
    refine h_iald (pc' := 1113) (v := s0 0 (b3 + 1)) rfl rfl rfl hz5 (by omega) (by omega) rfl (fun z6 hz6 => ?_)
    have tz6 := h_rgv hz6
    clear hz5
    refine h_call (sp := false) (pc' := 1116) (M := [(0, .ref 98), (1, .int z6)]) rfl rfl rfl rfl rfl rfl rfl rfl ?_
    refine h_aload_n (pc' := 1) rfl rfl rfl ?_
    refine h_iload_n (pc' := 2) rfl rfl rfl ?_
    refine h_call (sp := false) (pc' := 5) (M := [(0, .ref 98), (1, .int z6)]) rfl rfl rfl rfl rfl rfl rfl rfl ?_
    refine h_iload_n (pc' := 1) rfl rfl rfl ?_
    refine h_i2l (pc' := 2) rfl rfl hz6 (fun z7 hz7 => ?_)
    refine h_lconst (pc' := 3) (x := (Int64.ofInt 0)) rfl rfl rfl ?_
    refine h_aload_n (pc' := 4) rfl rfl rfl ?_
    refine h_getI (pc' := 7) (v := s0 98 1) rfl rfl rfl rfl rfl rfl (fun z8 hz8 => ?_)
    have tz8 := tf_98_1 I0
    refine h_iconst (pc' := 8) (x := (Int32.ofInt 1)) rfl rfl rfl ?_
    refine h_isub (pc' := 9) rfl rfl hz8 ci_1 rfl (by omega) (by omega) (fun z9 hz9 => ?_)
    clear hz8
    refine h_i2l (pc' := 10) rfl rfl hz9 (fun z10 hz10 => ?_)
    clear hz9
    refine h_calls (pc' := 13) (M := [(0, .long z7), (2, .long (Int64.ofInt 0)), (4, .long z10)]) rfl rfl rfl rfl rfl rfl ?_
    refine h_lload_n (pc' := 1) rfl rfl rfl ?_
    refine h_lload_n (pc' := 2) rfl rfl rfl ?_
    refine h_lcmp (pc' := 3) rfl rfl hz7 cl_0 (fun z11 hz11 => ?_)
    refine h_zlt (tg := 17) (pc' := 6) rfl rfl rfl rfl (fun c12 => ?_) (fun c12 => absurd c12 (by omega))
    replace c12 := (h_lcr hz11).1 c12
    clear hz11
    refine h_iconst (pc' := 18) (x := (Int32.ofInt 0)) rfl rfl rfl ?_
    refine h_zret rfl rfl ci_0 (by omega) (h_Kv ?_)
    clear hz10 hz7
    refine h_zret rfl rfl ci_0 (by omega) (h_Kv ?_)
    refine h_zeq (tg := 16) (pc' := 8) rfl rfl rfl ci_0 (fun c13 => ?_) (fun c13 => absurd (Int.le_antisymm (by omega) (by omega)) c13)
    refine h_iconst (pc' := 17) (x := (Int32.ofInt (-1))) rfl rfl rfl ?_
    refine h_iret rfl rfl (h_Kv ?_)
    clear hz6
    refine h_ceq (tg := 1441) (pc' := 1119) rfl rfl rfl ci_m1 ci_m1 (fun c14 => ?_) (fun c14 => absurd (Int.le_antisymm (by omega) (by omega)) c14)
    exact kk _ I0 (by first | exact d_tape.le j0 (Int.le_antisymm (by omega) (by omega)) (by omega) (fun j => rfl) (fun j => rfl) | (exfalso; omega)) (Int.le_antisymm (by omega) (by omega)) j2 (g_ti.e j3 rfl) (g_SH.e j4 rfl rfl rfl rfl rfl rfl) (Int.le_antisymm (by omega) (by omega)) (g_WS.le j6 (by omega) rfl rfl rfl)
  · refine h_iload_n (pc' := 5) rfl rfl rfl ?_
    refine h_aload_n (pc' := 6) rfl rfl rfl ?_
    refine h_getI (pc' := 9) (v := s0 10 8) rfl rfl rfl rfl rfl rfl (fun z15 hz15 => ?_)
    have tz15 := tf_10_8 I0
    refine h_cge (tg := 16) (pc' := 12) rfl rfl rfl hz2 hz15 (fun c16 => ?_) (fun c16 => ?_)
    · clear hz15
      refine h_iconst (pc' := 17) (x := (Int32.ofInt 0)) rfl rfl rfl ?_
      refine h_zret rfl rfl ci_0 (by omega) (h_Kv ?_)
      refine h_zeq (tg := 19) (pc' := 11) rfl rfl rfl ci_0 (fun c17 => ?_) (fun c17 => absurd (Int.le_antisymm (by omega) (by omega)) c17)
      refine h_iconst (pc' := 20) (x := (Int32.ofInt (-1))) rfl rfl rfl ?_
      refine h_iret rfl rfl (h_Kv ?_)
      clear hz2
      refine h_aload_n (pc' := 1108) rfl rfl rfl ?_
      refine h_aload_n (pc' := 1109) rfl rfl rfl ?_
      refine h_iload_n (pc' := 1110) rfl rfl rfl ?_
      refine h_iconst (pc' := 1111) (x := (Int32.ofInt 1)) rfl rfl rfl ?_
      refine h_iadd (pc' := 1112) rfl rfl hy3 ci_1 rfl (by omega) (by omega) (fun z18 hz18 => ?_)
      refine h_iald (pc' := 1113) (v := s0 0 (b3 + 1)) rfl rfl rfl hz18 (by omega) (by omega) rfl (fun z19 hz19 => ?_)
      have tz19 := h_rgv hz19
      clear hz18
      refine h_call (sp := false) (pc' := 1116) (M := [(0, .ref 98), (1, .int z19)]) rfl rfl rfl rfl rfl rfl rfl rfl ?_
      refine h_aload_n (pc' := 1) rfl rfl rfl ?_
      refine h_iload_n (pc' := 2) rfl rfl rfl ?_
      refine h_call (sp := false) (pc' := 5) (M := [(0, .ref 98), (1, .int z19)]) rfl rfl rfl rfl rfl rfl rfl rfl ?_
      refine h_iload_n (pc' := 1) rfl rfl rfl ?_
      refine h_i2l (pc' := 2) rfl rfl hz19 (fun z20 hz20 => ?_)
      refine h_lconst (pc' := 3) (x := (Int64.ofInt 0)) rfl rfl rfl ?_
      refine h_aload_n (pc' := 4) rfl rfl rfl ?_
      refine h_getI (pc' := 7) (v := s0 98 1) rfl rfl rfl rfl rfl rfl (fun z21 hz21 => ?_)
      have tz21 := tf_98_1 I0
      refine h_iconst (pc' := 8) (x := (Int32.ofInt 1)) rfl rfl rfl ?_
      refine h_isub (pc' := 9) rfl rfl hz21 ci_1 rfl (by omega) (by omega) (fun z22 hz22 => ?_)
      clear hz21
      refine h_i2l (pc' := 10) rfl rfl hz22 (fun z23 hz23 => ?_)
      clear hz22
      refine h_calls (pc' := 13) (M := [(0, .long z20), (2, .long (Int64.ofInt 0)), (4, .long z23)]) rfl rfl rfl rfl rfl rfl ?_
      refine h_lload_n (pc' := 1) rfl rfl rfl ?_
      refine h_lload_n (pc' := 2) rfl rfl rfl ?_
      refine h_lcmp (pc' := 3) rfl rfl hz20 cl_0 (fun z24 hz24 => ?_)
      refine h_zlt (tg := 17) (pc' := 6) rfl rfl rfl rfl (fun c25 => absurd c25 (by omega)) (fun c25 => ?_)
      replace c25 := (h_lcr hz24).2.1 c25
      clear hz24
      refine h_lload_n (pc' := 7) rfl rfl rfl ?_
      refine h_lload (pc' := 9) rfl rfl rfl ?_
      refine h_lcmp (pc' := 10) rfl rfl hz20 hz23 (fun z26 hz26 => ?_)
      refine h_zgt (tg := 17) (pc' := 13) rfl rfl rfl rfl (fun c27 => ?_) (fun c27 => absurd c27 (by omega))
      replace c27 := (h_lcr hz26).2.2.2.1 c27
      clear hz26
      refine h_iconst (pc' := 18) (x := (Int32.ofInt 0)) rfl rfl rfl ?_
      refine h_zret rfl rfl ci_0 (by omega) (h_Kv ?_)
      clear hz20 hz23
      refine h_zret rfl rfl ci_0 (by omega) (h_Kv ?_)
      refine h_zeq (tg := 16) (pc' := 8) rfl rfl rfl ci_0 (fun c28 => ?_) (fun c28 => absurd (Int.le_antisymm (by omega) (by omega)) c28)
      refine h_iconst (pc' := 17) (x := (Int32.ofInt (-1))) rfl rfl rfl ?_
      refine h_iret rfl rfl (h_Kv ?_)
      clear hz19
      refine h_ceq (tg := 1441) (pc' := 1119) rfl rfl rfl ci_m1 ci_m1 (fun c29 => ?_) (fun c29 => absurd (Int.le_antisymm (by omega) (by omega)) c29)
      exact kk _ I0 (by first | exact d_tape.le j0 (Int.le_antisymm (by omega) (by omega)) (by omega) (fun j => rfl) (fun j => rfl) | (exfalso; omega)) (Int.le_antisymm (by omega) (by omega)) j2 (g_ti.e j3 rfl) (g_SH.e j4 rfl rfl rfl rfl rfl rfl) (Int.le_antisymm (by omega) (by omega)) (g_WS.le j6 (by omega) rfl rfl rfl)
    · clear hz15
      refine h_iconst (pc' := 13) (x := (Int32.ofInt 1)) rfl rfl rfl ?_
      refine h_goto (pc' := 17) rfl rfl ?_
      refine h_zret rfl rfl ci_1 (by omega) (h_Kv ?_)
      refine h_zeq (tg := 19) (pc' := 11) rfl rfl rfl ci_1 (fun c30 => absurd c30 (by omega)) (fun c30 => ?_)
      refine h_aload_n (pc' := 12) rfl rfl rfl ?_
      refine h_iload_n (pc' := 13) rfl rfl rfl ?_
      refine h_call (sp := false) (pc' := 16) (M := [(0, .ref 9), (1, .int z2)]) rfl rfl rfl rfl rfl rfl rfl rfl ?_
      refine n_tryX _ I0 z2 _ hz2 (by omega) (c_R.runl j2 rfl rfl rfl) (c_R.runp j2 rfl rfl rfl rfl) (fun r31 br31 hr31 s32 Is32 Gs32 ps32_0 ps32_1 => h_Kv ?_)
      have Zs32 : ∀ i, s32 0 i = s0 0 i := fun i => (Gs32 0 i rfl).trans rfl
      have Fs32 : h_F (fun _ _ => true) s32 s0 := fun _ _ h => by cases h
      have es32_0 : s32 64 1 = s0 64 1 := (Gs32 64 1 rfl).trans rfl
      have es32_1 : s32 98 11 = s0 98 11 := (Gs32 98 11 rfl).trans rfl
      have es32_2 : s32 64 4 = s0 64 4 := (Gs32 64 4 rfl).trans rfl
      have es32_3 : s32 98 16 = s0 98 16 := (Gs32 98 16 rfl).trans rfl
      have es32_4 : s32 90 2 = s0 90 2 := (Gs32 90 2 rfl).trans rfl
      have es32_5 : s32 98 29 = s0 98 29 := (Gs32 98 29 rfl).trans rfl
      have es32_6 : s32 10 8 = s0 10 8 := (Gs32 10 8 rfl).trans rfl
      have es32_7 : s32 98 1 = s0 98 1 := (Gs32 98 1 rfl).trans rfl
      refine h_goto (pc' := 20) rfl rfl ?_
      refine h_iret rfl rfl (h_Kv ?_)
      clear hz2
      refine h_aload_n (pc' := 1108) rfl rfl rfl ?_
      refine h_aload_n (pc' := 1109) rfl rfl rfl ?_
      refine h_iload_n (pc' := 1110) rfl rfl rfl ?_
      refine h_iconst (pc' := 1111) (x := (Int32.ofInt 1)) rfl rfl rfl ?_
      refine h_iadd (pc' := 1112) rfl rfl hy3 ci_1 rfl (by omega) (by omega) (fun z33 hz33 => ?_)
      refine h_iald (pc' := 1113) (v := s0 0 (b3 + 1)) rfl rfl rfl hz33 (by omega) (by omega) (Zs32 _) (fun z34 hz34 => ?_)
      have tz34 := h_rgv hz34
      clear hz33
      refine h_call (sp := false) (pc' := 1116) (M := [(0, .ref 98), (1, .int z34)]) rfl rfl rfl rfl rfl rfl rfl rfl ?_
      refine h_aload_n (pc' := 1) rfl rfl rfl ?_
      refine h_iload_n (pc' := 2) rfl rfl rfl ?_
      refine h_call (sp := false) (pc' := 5) (M := [(0, .ref 98), (1, .int z34)]) rfl rfl rfl rfl rfl rfl rfl rfl ?_
      refine h_iload_n (pc' := 1) rfl rfl rfl ?_
      refine h_i2l (pc' := 2) rfl rfl hz34 (fun z35 hz35 => ?_)
      refine h_lconst (pc' := 3) (x := (Int64.ofInt 0)) rfl rfl rfl ?_
      refine h_aload_n (pc' := 4) rfl rfl rfl ?_
      refine h_getI (pc' := 7) (v := s0 98 1) rfl rfl rfl rfl rfl es32_7 (fun z36 hz36 => ?_)
      have tz36 := tf_98_1 I0
      refine h_iconst (pc' := 8) (x := (Int32.ofInt 1)) rfl rfl rfl ?_
      refine h_isub (pc' := 9) rfl rfl hz36 ci_1 rfl (by omega) (by omega) (fun z37 hz37 => ?_)
      clear hz36
      refine h_i2l (pc' := 10) rfl rfl hz37 (fun z38 hz38 => ?_)
      clear hz37
      refine h_calls (pc' := 13) (M := [(0, .long z35), (2, .long (Int64.ofInt 0)), (4, .long z38)]) rfl rfl rfl rfl rfl rfl ?_
      refine h_lload_n (pc' := 1) rfl rfl rfl ?_
      refine h_lload_n (pc' := 2) rfl rfl rfl ?_
      refine h_lcmp (pc' := 3) rfl rfl hz35 cl_0 (fun z39 hz39 => ?_)
      refine h_zlt (tg := 17) (pc' := 6) rfl rfl rfl rfl (fun c40 => absurd c40 (by omega)) (fun c40 => ?_)
      replace c40 := (h_lcr hz39).2.1 c40
      clear hz39
      refine h_lload_n (pc' := 7) rfl rfl rfl ?_
      refine h_lload (pc' := 9) rfl rfl rfl ?_
      refine h_lcmp (pc' := 10) rfl rfl hz35 hz38 (fun z41 hz41 => ?_)
      refine h_zgt (tg := 17) (pc' := 13) rfl rfl rfl rfl (fun c42 => absurd c42 (by omega)) (fun c42 => ?_)
      replace c42 := (h_lcr hz41).2.2.1 c42
      clear hz41
      refine h_iconst (pc' := 14) (x := (Int32.ofInt 1)) rfl rfl rfl ?_
      refine h_goto (pc' := 18) rfl rfl ?_
      refine h_zret rfl rfl ci_1 (by omega) (h_Kv ?_)
      clear hz35 hz38
      refine h_zret rfl rfl ci_1 (by omega) (h_Kv ?_)
      refine h_zeq (tg := 16) (pc' := 8) rfl rfl rfl ci_1 (fun c43 => absurd c43 (by omega)) (fun c43 => ?_)
      refine h_aload_n (pc' := 9) rfl rfl rfl ?_
      refine h_iload_n (pc' := 10) rfl rfl rfl ?_
      refine h_call (sp := false) (pc' := 13) (M := [(0, .ref 98), (1, .int z34)]) rfl rfl rfl rfl rfl rfl rfl rfl ?_
      refine n_parM _ Is32 z34 _ hz34 (by omega) (c_R.runm j2 I0 (funext (fun j => Gs32 99 j rfl))) (fun r44 br44 hr44 s45 Is45 Gs45 ps45_0 ps45_1 => h_Kv ?_)
      have Zs45 : ∀ i, s45 0 i = s0 0 i := fun i => (Gs45 0 i rfl).trans (Zs32 i)
      have Fs45 : h_F (fun _ _ => true) s45 s0 := fun _ _ h => by cases h
      have es45_0 : s45 64 1 = s0 64 1 := (Gs45 64 1 rfl).trans es32_0
      have es45_1 : s45 98 11 = s0 98 11 := (Gs45 98 11 rfl).trans es32_1
      have es45_2 : s45 64 4 = s0 64 4 := (Gs45 64 4 rfl).trans es32_2
      have es45_3 : s45 98 16 = s0 98 16 := (Gs45 98 16 rfl).trans es32_3
      have es45_4 : s45 90 2 = s0 90 2 := (Gs45 90 2 rfl).trans es32_4
      have es45_5 : s45 98 29 = s0 98 29 := (Gs45 98 29 rfl).trans es32_5
      have es45_6 : s45 10 8 = s0 10 8 := (Gs45 10 8 rfl).trans es32_6
      have es45_7 : s45 98 1 = s0 98 1 := (Gs45 98 1 rfl).trans es32_7
      refine h_goto (pc' := 17) rfl rfl ?_
      refine h_iret rfl rfl (h_Kv ?_)
      clear hz34
      refine h_ceq (tg := 1441) (pc' := 1119) rfl rfl rfl hr31 hr44 (fun c46 => ?_) (fun c46 => ?_)
      · exact kk _ Is45 (by first | exact d_tape.le j0 (Int.le_antisymm (by omega) (by omega)) (by omega) (fun j => (Gs45 65 j rfl).trans ((Gs32 65 j rfl))) (fun j => (Gs45 102 j rfl).trans ((Gs32 102 j rfl))) | (exfalso; omega)) (Int.le_antisymm (by omega) (by omega)) (c_R.fr (c_R.fr j2 I0 Gs32 rfl) Is32 Gs45 rfl) (g_ti.e j3 ((funext (fun j => Gs45 100 j rfl)).trans (funext (fun j => Gs32 100 j rfl)))) (g_SH.e j4 ((funext (fun j => Gs45 94 j rfl)).trans (funext (fun j => Gs32 94 j rfl))) ((funext (fun j => Gs45 95 j rfl)).trans (funext (fun j => Gs32 95 j rfl))) ((funext (fun j => Gs45 96 j rfl)).trans (funext (fun j => Gs32 96 j rfl))) ((funext (fun j => Gs45 111 j rfl)).trans (funext (fun j => Gs32 111 j rfl))) ((funext (fun j => Gs45 112 j rfl)).trans (funext (fun j => Gs32 112 j rfl))) ((funext (fun j => Gs45 113 j rfl)).trans (funext (fun j => Gs32 113 j rfl)))) (Int.le_antisymm (by omega) (by omega)) (g_WS.le j6 (by omega) ((funext (fun j => Gs45 91 j rfl)).trans (funext (fun j => Gs32 91 j rfl))) ((funext (fun j => Gs45 92 j rfl)).trans (funext (fun j => Gs32 92 j rfl))) ((funext (fun j => Gs45 108 j rfl)).trans (funext (fun j => Gs32 108 j rfl))))
      · refine h_iconst (pc' := 1120) (x := (Int32.ofInt 0)) rfl rfl rfl ?_
        have gx := ps32_1
        have gm := ps45_1
        have g8 := (Gs32 10 8 rfl)
        have gc := congrArg Int32.toInt (c_R.parR (s := s0) (c_R.fr j2 I0 Gs32 rfl) Is32 (g_ti.e j3 (funext (fun j => Gs32 100 j rfl))) (g_WS.le j6 (Int.le_of_eq (Gs32 90 2 rfl)) (funext (fun j => Gs32 91 j rfl)) (funext (fun j => Gs32 92 j rfl)) (funext (fun j => Gs32 108 j rfl))) ((Gs32 90 2 rfl).trans (j5.trans (Gs32 98 29 rfl).symm)) (Gs32 10 8 rfl) (Gs32 10 9 rfl) (Gs32 10 10 rfl) (funext (fun j => Gs32 11 j rfl)) (funext (fun j => Gs32 12 j rfl)) (Gs32 13 2 rfl) (funext (fun j => Gs32 14 j rfl)) (funext (fun j => Gs32 15 j rfl)) (Gs32 16 2 rfl) (funext (fun j => Gs32 17 j rfl)) (funext (fun j => Gs32 18 j rfl)) (funext (fun j => Gs32 19 j rfl)) (funext (fun j => Gs32 20 j rfl)) (funext (fun j => Gs32 22 j rfl)) (Gs32 90 2 rfl) (funext (fun j => Gs32 91 j rfl)) (funext (fun j => Gs32 92 j rfl)) ps32_0 ps45_0 rfl (by omega))
        exfalso
        omega
