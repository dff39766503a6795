set_option maxHeartbeats 100000000 in
theorem g_case_703 {ns : Nat} (hns : ns ≤ 320) (s0 : h_S) (I0 : h_I s0) (j0 : d_tape s0 s0) (j1 : s0 64 4 = s0 98 16) (j2 : c_R true s0) (j3 : g_ti s0) (j4 : g_SH s0) (j5 : s0 90 2 = s0 98 29) (y3 : Int32) (b3 : Int) (hy3 : y3.toInt = b3) (hr : 0 ≤ b3 ∧ b3 + 5 ≤ ns) {Q : Option Value → h_S → Prop} (kk : ∀ τ, h_I τ → (d_tape τ τ) → (τ 64 4 = τ 98 16) → (c_R true τ) → (g_ti τ) → (g_SH τ) → (τ 90 2 = τ 98 29) → h_T g_P (g_Y ns) 225 1441 [(0, .ref 0), (1, .ref 9), (2, .ref 98), (3, .int y3)] [] τ Q) : h_T g_P (g_Y ns) 225 703 [(0, .ref 0), (1, .ref 9), (2, .ref 98), (3, .int y3)] [] s0 Q := by
  have F0_ : h_F (fun _ _ => true) s0 s0 := h_F.rf
  have j0_ := j0.2
  have i0 := tf_64_1 I0
  have i1 := tf_98_11 I0
  have i2 := tf_64_4 I0
  have i3 := tf_98_16 I0
  have i4 := tf_90_2 I0
  have i5 := tf_98_29 I0
  have i6 := tf_10_8 I0
  have i7 := tf_98_1 I0
  have i8 := tf_10_9 I0
  have i9 := tf_98_2 I0
  have i10 := tf_10_10 I0
  have j2_ := j2.sz
  have y43 := ty_99_10 I0 43 (by omega)
  refine h_aload_n (pc' := 704) rfl rfl rfl ?_
  refine h_aload_n (pc' := 705) rfl rfl rfl ?_
  refine h_iload_n (pc' := 706) rfl rfl rfl ?_
  refine h_iconst (pc' := 707) (x := (Int32.ofInt 1)) rfl rfl rfl ?_
  refine h_iadd (pc' := 708) rfl rfl hy3 ci_1 rfl (by omega) (by omega) (fun z1 hz1 => ?_)
  refine h_iald (pc' := 709) (v := s0 0 (b3 + 1)) rfl rfl rfl hz1 (by omega) (by omega) rfl (fun z2 hz2 => ?_)
  have tz2 := h_rgv hz2
  clear hz1
  refine h_call (sp := false) (pc' := 712) (M := [(0, .ref 9), (1, .int z2)]) rfl rfl rfl rfl rfl rfl rfl rfl ?_
  refine h_iload_n (pc' := 1) rfl rfl rfl ?_
  refine h_zlt (tg := 15) (pc' := 4) rfl rfl rfl hz2 (fun c3 => ?_) (fun c3 => ?_)
  · refine h_iconst (pc' := 16) (x := (Int32.ofInt (-1))) rfl rfl rfl ?_
    refine h_iret rfl rfl (h_Kv ?_)
    clear hz2
    refine h_pop (pc' := 713) rfl rfl rfl ?_
    refine h_aload_n (pc' := 714) rfl rfl rfl ?_
    refine h_aload_n (pc' := 715) rfl rfl rfl ?_
    refine h_iload_n (pc' := 716) rfl rfl rfl ?_
    refine h_iconst (pc' := 717) (x := (Int32.ofInt 1)) rfl rfl rfl ?_
    refine h_iadd (pc' := 718) rfl rfl hy3 ci_1 rfl (by omega) (by omega) (fun z4 hz4 => ?_)
    refine h_iald (pc' := 719) (v := s0 0 (b3 + 1)) rfl rfl rfl hz4 (by omega) (by omega) rfl (fun z5 hz5 => ?_)
    have tz5 := h_rgv hz5
    clear hz4
    refine h_call (sp := false) (pc' := 722) (M := [(0, .ref 98), (1, .int z5)]) rfl rfl rfl rfl rfl rfl rfl rfl ?_
    refine h_aload_n (pc' := 1) rfl rfl rfl ?_
    refine h_iload_n (pc' := 2) rfl rfl rfl ?_
    refine h_i2l (pc' := 3) rfl rfl hz5 (fun z6 hz6 => ?_)
    refine h_lconst (pc' := 4) (x := (Int64.ofInt 0)) rfl rfl rfl ?_
    refine h_aload_n (pc' := 5) rfl rfl rfl ?_
    refine h_getR (pc' := 8) rfl rfl rfl rfl rfl ?_
    refine h_bipush (pc' := 10) (x := (Int32.ofInt 43)) rfl rfl cb_43 ?_
    refine h_iald (pc' := 11) (v := s0 99 43) rfl rfl rfl ci_43 (by omega) (by omega) rfl (fun z7 hz7 => ?_)
    have tz7 := ty_99_10 I0 43 (by omega)
    refine h_i2l (pc' := 12) rfl rfl hz7 (fun z8 hz8 => ?_)
    clear hz7
    refine h_calls (pc' := 15) (M := [(0, .long z6), (2, .long (Int64.ofInt 0)), (4, .long z8)]) rfl rfl rfl rfl rfl rfl ?_
    refine h_lload_n (pc' := 1) rfl rfl rfl ?_
    refine h_lload_n (pc' := 2) rfl rfl rfl ?_
    refine h_lcmp (pc' := 3) rfl rfl hz6 cl_0 (fun z9 hz9 => ?_)
    refine h_zlt (tg := 17) (pc' := 6) rfl rfl rfl rfl (fun c10 => ?_) (fun c10 => absurd c10 (by omega))
    replace c10 := (h_lcr hz9).1 c10
    clear hz9
    refine h_iconst (pc' := 18) (x := (Int32.ofInt 0)) rfl rfl rfl ?_
    refine h_zret rfl rfl ci_0 (by omega) (h_Kv ?_)
    clear hz6 hz8
    refine h_bipush (pc' := 17) (x := (Int32.ofInt 43)) rfl rfl cb_43 ?_
    refine h_iload_n (pc' := 18) rfl rfl rfl ?_
    refine h_iconst (pc' := 19) (x := (Int32.ofInt 0)) rfl rfl rfl ?_
    refine h_call (sp := false) (pc' := 22) (M := [(0, .ref 98), (1, .int (Int32.ofInt 0)), (2, .int (Int32.ofInt 43)), (3, .int z5), (4, .int (Int32.ofInt 0))]) rfl rfl rfl rfl rfl rfl rfl rfl ?_
    refine h_iload_n (pc' := 1) rfl rfl rfl ?_
    refine h_zne (tg := 6) (pc' := 4) rfl rfl rfl ci_0 (fun c11 => absurd (Int.le_antisymm (by omega) (by omega)) c11) (fun c11 => ?_)
    refine h_iconst (pc' := 5) (x := (Int32.ofInt (-1))) rfl rfl rfl ?_
    refine h_iret rfl rfl (h_Kv ?_)
    refine h_iret rfl rfl (h_Kv ?_)
    clear hz5
    refine h_pop (pc' := 723) rfl rfl rfl ?_
    refine h_goto (pc' := 1441) rfl rfl ?_
    exact kk _ I0 (by first | exact d_tape.le j0 (Int.le_antisymm (by omega) (by omega)) (by omega) (fun j => rfl) (fun j => rfl) | (exfalso; omega)) (Int.le_antisymm (by omega) (by omega)) j2 (g_ti.e j3 rfl) (g_SH.e j4 rfl rfl rfl rfl rfl rfl) (Int.le_antisymm (by omega) (by omega))
  · refine h_iload_n (pc' := 5) rfl rfl rfl ?_
    refine h_aload_n (pc' := 6) rfl rfl rfl ?_
    refine h_getR (pc' := 9) rfl rfl rfl rfl rfl ?_
    refine h_getI (pc' := 12) (v := s0 10 10) rfl rfl rfl rfl rfl rfl (fun z12 hz12 => ?_)
    have tz12 := tf_10_10 I0
    refine h_cle (tg := 17) (pc' := 15) rfl rfl rfl hz2 hz12 (fun c13 => ?_) (fun c13 => ?_)
    · clear hz12
      refine h_aload_n (pc' := 18) rfl rfl rfl ?_
      refine h_getR (pc' := 21) rfl rfl rfl rfl rfl ?_
      refine h_getI (pc' := 24) (v := s0 10 10) rfl rfl rfl rfl rfl rfl (fun z14 hz14 => ?_)
      refine h_istore_n (pc' := 25) (M := [(2, .int z14), (0, .ref 9), (1, .int z2)]) rfl rfl rfl rfl ?_
      refine h_aload_n (pc' := 26) rfl rfl rfl ?_
      refine h_getR (pc' := 29) rfl rfl rfl rfl rfl ?_
      refine h_iload_n (pc' := 30) rfl rfl rfl ?_
      refine h_put (pc' := 33) rfl rfl rfl rfl rfl rfl hz2 rfl (h_fgt (E := fun s => s 64 1 = s0 64 1 ∧ s 98 11 = s0 98 11 ∧ s 64 4 = s0 64 4 ∧ s 98 16 = s0 98 16 ∧ s 90 2 = s0 90 2 ∧ s 98 29 = s0 98 29 ∧ s 10 8 = s0 10 8 ∧ s 98 1 = s0 98 1 ∧ s 10 9 = s0 10 9 ∧ s 98 2 = s0 98 2 ∧ s 10 10 = (s0 0 (b3 + 1)) ∧ s 99 43 = s0 99 43 ∧ s = h_up s0 10 10 (s0 0 (b3 + 1))) _ (if_10_10 I0 (by omega)) (F0_.up rfl) ⟨rfl, rfl, rfl, rfl, rfl, rfl, rfl, rfl, rfl, rfl, rfl, rfl, rfl⟩ (fun s15 Is15 Fs15 (es15 : s15 64 1 = s0 64 1 ∧ s15 98 11 = s0 98 11 ∧ s15 64 4 = s0 64 4 ∧ s15 98 16 = s0 98 16 ∧ s15 90 2 = s0 90 2 ∧ s15 98 29 = s0 98 29 ∧ s15 10 8 = s0 10 8 ∧ s15 98 1 = s0 98 1 ∧ s15 10 9 = s0 10 9 ∧ s15 98 2 = s0 98 2 ∧ s15 10 10 = (s0 0 (b3 + 1)) ∧ s15 99 43 = s0 99 43 ∧ s15 = h_up s0 10 10 (s0 0 (b3 + 1))) => ?_))
      have us15 := es15.2.2.2.2.2.2.2.2.2.2.2.2
      have Zs15 : ∀ i, s15 0 i = s0 0 i := fun i => (h_upo us15 rfl i).trans rfl
      refine h_iload_n (pc' := 34) rfl rfl rfl ?_
      refine h_iret rfl rfl (h_Kv ?_)
      refine h_pop (pc' := 713) rfl rfl rfl ?_
      clear hz14
      refine h_aload_n (pc' := 714) rfl rfl rfl ?_
      refine h_aload_n (pc' := 715) rfl rfl rfl ?_
      refine h_iload_n (pc' := 716) rfl rfl rfl ?_
      refine h_iconst (pc' := 717) (x := (Int32.ofInt 1)) rfl rfl rfl ?_
      refine h_iadd (pc' := 718) rfl rfl hy3 ci_1 rfl (by omega) (by omega) (fun z16 hz16 => ?_)
      refine h_iald (pc' := 719) (v := s0 0 (b3 + 1)) rfl rfl rfl hz16 (by omega) (by omega) (Zs15 _) (fun z17 hz17 => ?_)
      have tz17 := h_rgv hz17
      clear hz16
      refine h_call (sp := false) (pc' := 722) (M := [(0, .ref 98), (1, .int z17)]) rfl rfl rfl rfl rfl rfl rfl rfl ?_
      refine h_aload_n (pc' := 1) rfl rfl rfl ?_
      refine h_iload_n (pc' := 2) rfl rfl rfl ?_
      refine h_i2l (pc' := 3) rfl rfl hz17 (fun z18 hz18 => ?_)
      refine h_lconst (pc' := 4) (x := (Int64.ofInt 0)) rfl rfl rfl ?_
      refine h_aload_n (pc' := 5) rfl rfl rfl ?_
      refine h_getR (pc' := 8) rfl rfl rfl rfl rfl ?_
      refine h_bipush (pc' := 10) (x := (Int32.ofInt 43)) rfl rfl cb_43 ?_
      refine h_iald (pc' := 11) (v := s0 99 43) rfl rfl rfl ci_43 (by omega) (by omega) es15.2.2.2.2.2.2.2.2.2.2.2.1 (fun z19 hz19 => ?_)
      have tz19 := ty_99_10 I0 43 (by omega)
      refine h_i2l (pc' := 12) rfl rfl hz19 (fun z20 hz20 => ?_)
      clear hz19
      refine h_calls (pc' := 15) (M := [(0, .long z18), (2, .long (Int64.ofInt 0)), (4, .long z20)]) rfl rfl rfl rfl rfl rfl ?_
      refine h_lload_n (pc' := 1) rfl rfl rfl ?_
      refine h_lload_n (pc' := 2) rfl rfl rfl ?_
      refine h_lcmp (pc' := 3) rfl rfl hz18 cl_0 (fun z21 hz21 => ?_)
      refine h_zlt (tg := 17) (pc' := 6) rfl rfl rfl rfl (fun c22 => absurd c22 (by omega)) (fun c22 => ?_)
      replace c22 := (h_lcr hz21).2.1 c22
      clear hz21
      refine h_lload_n (pc' := 7) rfl rfl rfl ?_
      refine h_lload (pc' := 9) rfl rfl rfl ?_
      refine h_lcmp (pc' := 10) rfl rfl hz18 hz20 (fun z23 hz23 => ?_)
      refine h_zgt (tg := 17) (pc' := 13) rfl rfl rfl rfl (fun c24 => absurd c24 (by omega)) (fun c24 => ?_)
      replace c24 := (h_lcr hz23).2.2.1 c24
      clear hz23
      refine h_iconst (pc' := 14) (x := (Int32.ofInt 1)) rfl rfl rfl ?_
      refine h_goto (pc' := 18) rfl rfl ?_
      refine h_zret rfl rfl ci_1 (by omega) (h_Kv ?_)
      clear hz18 hz20
      refine h_bipush (pc' := 17) (x := (Int32.ofInt 43)) rfl rfl cb_43 ?_
      refine h_iload_n (pc' := 18) rfl rfl rfl ?_
      refine h_iconst (pc' := 19) (x := (Int32.ofInt 0)) rfl rfl rfl ?_
      refine h_call (sp := false) (pc' := 22) (M := [(0, .ref 98), (1, .int (Int32.ofInt 1)), (2, .int (Int32.ofInt 43)), (3, .int z17), (4, .int (Int32.ofInt 0))]) rfl rfl rfl rfl rfl rfl rfl rfl ?_
      refine h_iload_n (pc' := 1) rfl rfl rfl ?_
      refine h_zne (tg := 6) (pc' := 4) rfl rfl rfl ci_1 (fun c25 => ?_) (fun c25 => absurd c25 (by omega))
      refine h_iload (pc' := 8) rfl rfl rfl ?_
      refine h_zne (tg := 20) (pc' := 11) rfl rfl rfl ci_0 (fun c26 => absurd (Int.le_antisymm (by omega) (by omega)) c26) (fun c26 => ?_)
      refine h_aload_n (pc' := 12) rfl rfl rfl ?_
      refine h_getR (pc' := 15) rfl rfl rfl rfl rfl ?_
      refine h_iload_n (pc' := 16) rfl rfl rfl ?_
      refine h_iald (pc' := 17) (v := s0 99 43) rfl rfl rfl ci_43 (by omega) (by omega) es15.2.2.2.2.2.2.2.2.2.2.2.1 (fun z27 hz27 => ?_)
      refine h_goto (pc' := 29) rfl rfl ?_
      refine h_istore (pc' := 31) (M := [(5, .int z27), (0, .ref 98), (1, .int (Int32.ofInt 1)), (2, .int (Int32.ofInt 43)), (3, .int z17), (4, .int (Int32.ofInt 0))]) rfl rfl rfl rfl ?_
      refine h_aload_n (pc' := 32) rfl rfl rfl ?_
      refine h_getR (pc' := 35) rfl rfl rfl rfl rfl ?_
      refine h_iload_n (pc' := 36) rfl rfl rfl ?_
      refine h_iload (pc' := 38) rfl rfl rfl ?_
      refine h_zne (tg := 45) (pc' := 41) rfl rfl rfl ci_0 (fun c28 => absurd (Int.le_antisymm (by omega) (by omega)) c28) (fun c28 => ?_)
      refine h_iload_n (pc' := 42) rfl rfl rfl ?_
      refine h_goto (pc' := 58) rfl rfl ?_
      refine h_iast (pc' := 59) rfl rfl rfl rfl ci_43 (by omega) (by omega) hz17 (h_fgt (E := fun s => s 64 1 = s0 64 1 ∧ s 98 11 = s0 98 11 ∧ s 64 4 = s0 64 4 ∧ s 98 16 = s0 98 16 ∧ s 90 2 = s0 90 2 ∧ s 98 29 = s0 98 29 ∧ s 10 8 = s0 10 8 ∧ s 98 1 = s0 98 1 ∧ s 10 9 = s0 10 9 ∧ s 98 2 = s0 98 2 ∧ s 10 10 = (s0 0 (b3 + 1)) ∧ s 99 43 = (s0 0 (b3 + 1)) ∧ s = h_up s15 99 43 (s0 0 (b3 + 1))) _ (ip_99_10 Is15 (by omega) (by omega)) (Fs15.up rfl) ⟨es15.1, es15.2.1, es15.2.2.1, es15.2.2.2.1, es15.2.2.2.2.1, es15.2.2.2.2.2.1, es15.2.2.2.2.2.2.1, es15.2.2.2.2.2.2.2.1, es15.2.2.2.2.2.2.2.2.1, es15.2.2.2.2.2.2.2.2.2.1, es15.2.2.2.2.2.2.2.2.2.2.1, rfl, rfl⟩ (fun s29 Is29 Fs29 (es29 : s29 64 1 = s0 64 1 ∧ s29 98 11 = s0 98 11 ∧ s29 64 4 = s0 64 4 ∧ s29 98 16 = s0 98 16 ∧ s29 90 2 = s0 90 2 ∧ s29 98 29 = s0 98 29 ∧ s29 10 8 = s0 10 8 ∧ s29 98 1 = s0 98 1 ∧ s29 10 9 = s0 10 9 ∧ s29 98 2 = s0 98 2 ∧ s29 10 10 = (s0 0 (b3 + 1)) ∧ s29 99 43 = (s0 0 (b3 + 1)) ∧ s29 = h_up s15 99 43 (s0 0 (b3 + 1))) => ?_))
      clear es15
      have us29 := es29.2.2.2.2.2.2.2.2.2.2.2.2
      have Zs29 : ∀ i, s29 0 i = s0 0 i := fun i => (h_upo us29 rfl i).trans (Zs15 i)
      refine h_iload (pc' := 61) rfl rfl rfl ?_
      refine h_iret rfl rfl (h_Kv ?_)
      refine h_iret rfl rfl (h_Kv ?_)
      refine h_pop (pc' := 723) rfl rfl rfl ?_
      clear hz27
      refine h_goto (pc' := 1441) rfl rfl ?_
      exact kk _ Is29 (by first | exact d_tape.le j0 (Int.le_antisymm (by omega) (by omega)) (by omega) (fun j => (h_upo us29 rfl j).trans ((h_upo us15 rfl j))) (fun j => (h_upo us29 rfl j).trans ((h_upo us15 rfl j))) | (exfalso; omega)) (Int.le_antisymm (by omega) (by omega)) (c_R.cut j2 I0 (n := (s0 0 (b3 + 1))) (by omega) (Int.le_antisymm (by omega) (by omega)) (Int.le_antisymm (by omega) (by omega))  (Int.le_antisymm (by omega) (by omega)) (fun j => (h_upi us29 j).trans (congrArg (fun z => if j = 43 then (s0 0 (b3 + 1)) else z) ((h_upo us15 rfl j)))) (Int.le_antisymm (by omega) (by omega)) (Int.le_antisymm (by omega) (by omega)) (fun p j n0 n1 => (h_upq us29 n1 j).trans ((h_upq us15 n0 j)))) (g_ti.e j3 ((h_upg us29 rfl).trans (h_upg us15 rfl))) (g_SH.e j4 ((h_upg us29 rfl).trans (h_upg us15 rfl)) ((h_upg us29 rfl).trans (h_upg us15 rfl)) ((h_upg us29 rfl).trans (h_upg us15 rfl)) ((h_upg us29 rfl).trans (h_upg us15 rfl)) ((h_upg us29 rfl).trans (h_upg us15 rfl)) ((h_upg us29 rfl).trans (h_upg us15 rfl))) (Int.le_antisymm (by omega) (by omega))
    · clear hz12
      refine h_iconst (pc' := 16) (x := (Int32.ofInt (-1))) rfl rfl rfl ?_
      refine h_iret rfl rfl (h_Kv ?_)
      clear hz2
      refine h_pop (pc' := 713) rfl rfl rfl ?_
      refine h_aload_n (pc' := 714) rfl rfl rfl ?_
      refine h_aload_n (pc' := 715) rfl rfl rfl ?_
      refine h_iload_n (pc' := 716) rfl rfl rfl ?_
      refine h_iconst (pc' := 717) (x := (Int32.ofInt 1)) rfl rfl rfl ?_
      refine h_iadd (pc' := 718) rfl rfl hy3 ci_1 rfl (by omega) (by omega) (fun z30 hz30 => ?_)
      refine h_iald (pc' := 719) (v := s0 0 (b3 + 1)) rfl rfl rfl hz30 (by omega) (by omega) rfl (fun z31 hz31 => ?_)
      have tz31 := h_rgv hz31
      clear hz30
      refine h_call (sp := false) (pc' := 722) (M := [(0, .ref 98), (1, .int z31)]) rfl rfl rfl rfl rfl rfl rfl rfl ?_
      refine h_aload_n (pc' := 1) rfl rfl rfl ?_
      refine h_iload_n (pc' := 2) rfl rfl rfl ?_
      refine h_i2l (pc' := 3) rfl rfl hz31 (fun z32 hz32 => ?_)
      refine h_lconst (pc' := 4) (x := (Int64.ofInt 0)) rfl rfl rfl ?_
      refine h_aload_n (pc' := 5) rfl rfl rfl ?_
      refine h_getR (pc' := 8) rfl rfl rfl rfl rfl ?_
      refine h_bipush (pc' := 10) (x := (Int32.ofInt 43)) rfl rfl cb_43 ?_
      refine h_iald (pc' := 11) (v := s0 99 43) rfl rfl rfl ci_43 (by omega) (by omega) rfl (fun z33 hz33 => ?_)
      have tz33 := ty_99_10 I0 43 (by omega)
      refine h_i2l (pc' := 12) rfl rfl hz33 (fun z34 hz34 => ?_)
      clear hz33
      refine h_calls (pc' := 15) (M := [(0, .long z32), (2, .long (Int64.ofInt 0)), (4, .long z34)]) rfl rfl rfl rfl rfl rfl ?_
      refine h_lload_n (pc' := 1) rfl rfl rfl ?_
      refine h_lload_n (pc' := 2) rfl rfl rfl ?_
      refine h_lcmp (pc' := 3) rfl rfl hz32 cl_0 (fun z35 hz35 => ?_)
      refine h_zlt (tg := 17) (pc' := 6) rfl rfl rfl rfl (fun c36 => absurd c36 (by omega)) (fun c36 => ?_)
      replace c36 := (h_lcr hz35).2.1 c36
      clear hz35
      refine h_lload_n (pc' := 7) rfl rfl rfl ?_
      refine h_lload (pc' := 9) rfl rfl rfl ?_
      refine h_lcmp (pc' := 10) rfl rfl hz32 hz34 (fun z37 hz37 => ?_)
      refine h_zgt (tg := 17) (pc' := 13) rfl rfl rfl rfl (fun c38 => ?_) (fun c38 => absurd c38 (by omega))
      replace c38 := (h_lcr hz37).2.2.2.1 c38
      clear hz37
      refine h_iconst (pc' := 18) (x := (Int32.ofInt 0)) rfl rfl rfl ?_
      refine h_zret rfl rfl ci_0 (by omega) (h_Kv ?_)
      clear hz32 hz34
      refine h_bipush (pc' := 17) (x := (Int32.ofInt 43)) rfl rfl cb_43 ?_
      refine h_iload_n (pc' := 18) rfl rfl rfl ?_
      refine h_iconst (pc' := 19) (x := (Int32.ofInt 0)) rfl rfl rfl ?_
      refine h_call (sp := false) (pc' := 22) (M := [(0, .ref 98), (1, .int (Int32.ofInt 0)), (2, .int (Int32.ofInt 43)), (3, .int z31), (4, .int (Int32.ofInt 0))]) rfl rfl rfl rfl rfl rfl rfl rfl ?_
      refine h_iload_n (pc' := 1) rfl rfl rfl ?_
      refine h_zne (tg := 6) (pc' := 4) rfl rfl rfl ci_0 (fun c39 => absurd (Int.le_antisymm (by omega) (by omega)) c39) (fun c39 => ?_)
      refine h_iconst (pc' := 5) (x := (Int32.ofInt (-1))) rfl rfl rfl ?_
      refine h_iret rfl rfl (h_Kv ?_)
      refine h_iret rfl rfl (h_Kv ?_)
      clear hz31
      refine h_pop (pc' := 723) rfl rfl rfl ?_
      refine h_goto (pc' := 1441) rfl rfl ?_
      exact kk _ I0 (by first | exact d_tape.le j0 (Int.le_antisymm (by omega) (by omega)) (by omega) (fun j => rfl) (fun j => rfl) | (exfalso; omega)) (Int.le_antisymm (by omega) (by omega)) j2 (g_ti.e j3 rfl) (g_SH.e j4 rfl rfl rfl rfl rfl rfl) (Int.le_antisymm (by omega) (by omega))
