set_option maxHeartbeats 100000000 in
theorem g_case_1352 {ns : Nat} (hns : ns ≤ 320) (s0 : h_S) (I0 : h_I s0) (j0 : d_tape s0 s0) (j1 : s0 64 4 = s0 98 16) (j2 : c_R true s0) (j3 : g_ti s0) (j4 : g_SH s0) (y3 : Int32) (b3 : Int) (hy3 : y3.toInt = b3) (hr : 0 ≤ b3 ∧ b3 + 5 ≤ ns) {Q : Option Value → h_S → Prop} (kk : ∀ τ, h_I τ → (d_tape τ τ) → (τ 64 4 = τ 98 16) → (c_R true τ) → (g_ti τ) → (g_SH τ) → h_T g_P (g_Y ns) 225 1441 [(0, .ref 0), (1, .ref 9), (2, .ref 98), (3, .int y3)] [] τ Q) : h_T g_P (g_Y ns) 225 1352 [(0, .ref 0), (1, .ref 9), (2, .ref 98), (3, .int y3)] [] s0 Q := by
  have F0_ : h_F (fun _ _ => true) s0 s0 := h_F.rf
  have j0_ := j0.2
  have i0 := tf_64_1 I0
  have i1 := tf_98_11 I0
  have i2 := tf_64_4 I0
  have i3 := tf_98_16 I0
  refine h_aload_n (pc' := 1353) rfl rfl rfl ?_
  refine h_aload_n (pc' := 1354) rfl rfl rfl ?_
  refine h_iload_n (pc' := 1355) rfl rfl rfl ?_
  refine h_iconst (pc' := 1356) (x := (Int32.ofInt 1)) rfl rfl rfl ?_
  refine h_iadd (pc' := 1357) rfl rfl hy3 ci_1 rfl (by omega) (by omega) (fun z1 hz1 => ?_)
  refine h_iald (pc' := 1358) (v := s0 0 (b3 + 1)) rfl rfl rfl hz1 (by omega) (by omega) rfl (fun z2 hz2 => ?_)
  have tz2 := h_rgv hz2
  clear hz1
  refine h_aload_n (pc' := 1359) rfl rfl rfl ?_
  refine h_iload_n (pc' := 1360) rfl rfl rfl ?_
  refine h_iconst (pc' := 1361) (x := (Int32.ofInt 2)) rfl rfl rfl ?_
  refine h_iadd (pc' := 1362) rfl rfl hy3 ci_2 rfl (by omega) (by omega) (fun z3 hz3 => ?_)
  refine h_iald (pc' := 1363) (v := s0 0 (b3 + 2)) rfl rfl rfl hz3 (by omega) (by omega) rfl (fun z4 hz4 => ?_)
  have tz4 := h_rgv hz4
  clear hz3
  refine h_aload_n (pc' := 1364) rfl rfl rfl ?_
  refine h_iload_n (pc' := 1365) rfl rfl rfl ?_
  refine h_iconst (pc' := 1366) (x := (Int32.ofInt 3)) rfl rfl rfl ?_
  refine h_iadd (pc' := 1367) rfl rfl hy3 ci_3 rfl (by omega) (by omega) (fun z5 hz5 => ?_)
  refine h_iald (pc' := 1368) (v := s0 0 (b3 + 3)) rfl rfl rfl hz5 (by omega) (by omega) rfl (fun z6 hz6 => ?_)
  have tz6 := h_rgv hz6
  clear hz5
  refine h_aload_n (pc' := 1369) rfl rfl rfl ?_
  refine h_iload_n (pc' := 1370) rfl rfl rfl ?_
  refine h_iconst (pc' := 1371) (x := (Int32.ofInt 4)) rfl rfl rfl ?_
  refine h_iadd (pc' := 1372) rfl rfl hy3 ci_4 rfl (by omega) (by omega) (fun z7 hz7 => ?_)
  refine h_iald (pc' := 1373) (v := s0 0 (b3 + 4)) rfl rfl rfl hz7 (by omega) (by omega) rfl (fun z8 hz8 => ?_)
  have tz8 := h_rgv hz8
  clear hz7
  refine h_call (sp := false) (pc' := 1376) (M := [(0, .ref 9), (1, .int z2), (2, .int z4), (3, .int z6), (4, .int z8)]) rfl rfl rfl rfl rfl rfl rfl rfl ?_
  refine n_readX _ I0 z2 _ hz2 z4 _ hz4 z6 _ hz6 z8 _ hz8 (fun g a b => by have gl := (j2.lw (j := g) a b).1; omega) (fun r9 br9 hr9 s10 Is10 Gs10 tr9 ps10_0 => h_Kv ?_)
  have Zs10 : ∀ i, s10 0 i = s0 0 i := fun i => (Gs10 0 i rfl).trans rfl
  have Fs10 : h_F (fun _ _ => true) s10 s0 := fun _ _ h => by cases h
  have es10_0 : s10 64 1 = s0 64 1 := (Gs10 64 1 rfl).trans rfl
  have es10_1 : s10 98 11 = s0 98 11 := (Gs10 98 11 rfl).trans rfl
  have es10_2 : s10 64 4 = s0 64 4 := (Gs10 64 4 rfl).trans rfl
  have es10_3 : s10 98 16 = s0 98 16 := (Gs10 98 16 rfl).trans rfl
  clear hz2 hz4 hz6 hz8
  refine h_pop (pc' := 1377) rfl rfl rfl ?_
  clear hr9
  refine h_aload_n (pc' := 1378) rfl rfl rfl ?_
  refine h_aload_n (pc' := 1379) rfl rfl rfl ?_
  refine h_iload_n (pc' := 1380) rfl rfl rfl ?_
  refine h_iconst (pc' := 1381) (x := (Int32.ofInt 1)) rfl rfl rfl ?_
  refine h_iadd (pc' := 1382) rfl rfl hy3 ci_1 rfl (by omega) (by omega) (fun z11 hz11 => ?_)
  refine h_iald (pc' := 1383) (v := s0 0 (b3 + 1)) rfl rfl rfl hz11 (by omega) (by omega) (Zs10 _) (fun z12 hz12 => ?_)
  have tz12 := h_rgv hz12
  clear hz11
  refine h_aload_n (pc' := 1384) rfl rfl rfl ?_
  refine h_iload_n (pc' := 1385) rfl rfl rfl ?_
  refine h_iconst (pc' := 1386) (x := (Int32.ofInt 2)) rfl rfl rfl ?_
  refine h_iadd (pc' := 1387) rfl rfl hy3 ci_2 rfl (by omega) (by omega) (fun z13 hz13 => ?_)
  refine h_iald (pc' := 1388) (v := s0 0 (b3 + 2)) rfl rfl rfl hz13 (by omega) (by omega) (Zs10 _) (fun z14 hz14 => ?_)
  have tz14 := h_rgv hz14
  clear hz13
  refine h_aload_n (pc' := 1389) rfl rfl rfl ?_
  refine h_iload_n (pc' := 1390) rfl rfl rfl ?_
  refine h_iconst (pc' := 1391) (x := (Int32.ofInt 3)) rfl rfl rfl ?_
  refine h_iadd (pc' := 1392) rfl rfl hy3 ci_3 rfl (by omega) (by omega) (fun z15 hz15 => ?_)
  refine h_iald (pc' := 1393) (v := s0 0 (b3 + 3)) rfl rfl rfl hz15 (by omega) (by omega) (Zs10 _) (fun z16 hz16 => ?_)
  have tz16 := h_rgv hz16
  clear hz15
  refine h_aload_n (pc' := 1394) rfl rfl rfl ?_
  refine h_iload_n (pc' := 1395) rfl rfl rfl ?_
  refine h_iconst (pc' := 1396) (x := (Int32.ofInt 4)) rfl rfl rfl ?_
  refine h_iadd (pc' := 1397) rfl rfl hy3 ci_4 rfl (by omega) (by omega) (fun z17 hz17 => ?_)
  refine h_iald (pc' := 1398) (v := s0 0 (b3 + 4)) rfl rfl rfl hz17 (by omega) (by omega) (Zs10 _) (fun z18 hz18 => ?_)
  have tz18 := h_rgv hz18
  clear hz17
  refine h_call (sp := false) (pc' := 1401) (M := [(0, .ref 98), (1, .int z12), (2, .int z14), (3, .int z16), (4, .int z18)]) rfl rfl rfl rfl rfl rfl rfl rfl ?_
  refine n_readM _ Is10 z12 _ hz12 z14 _ hz14 z16 _ hz16 z18 _ hz18 (fun r19 br19 hr19 s20 Is20 Gs20 tr19 ps20_0 => h_Kv ?_)
  have Zs20 : ∀ i, s20 0 i = s0 0 i := fun i => (Gs20 0 i rfl).trans (Zs10 i)
  have Fs20 : h_F (fun _ _ => true) s20 s0 := fun _ _ h => by cases h
  have es20_0 : s20 64 1 = s0 64 1 := (Gs20 64 1 rfl).trans es10_0
  have es20_1 : s20 98 11 = s0 98 11 := (Gs20 98 11 rfl).trans es10_1
  have es20_2 : s20 64 4 = s0 64 4 := (Gs20 64 4 rfl).trans es10_2
  have es20_3 : s20 98 16 = s0 98 16 := (Gs20 98 16 rfl).trans es10_3
  clear hz12 hz14 hz16 hz18
  refine h_pop (pc' := 1402) rfl rfl rfl ?_
  clear hr19
  refine h_goto (pc' := 1441) rfl rfl ?_
  exact kk _ Is20 (by first | exact d_tape.le j0 (Int.le_antisymm (by omega) (by omega)) (by omega) (fun j => (Gs20 65 j rfl).trans ((Gs10 65 j rfl))) (fun j => (Gs20 102 j rfl).trans ((Gs10 102 j rfl))) | (exfalso; omega)) (Int.le_antisymm (by omega) (by omega)) (c_R.readR j2 I0 j3 j4 ((c_eq.fr (fl := false) Gs20 rfl).tr (c_eq.fr (fl := false) Gs10 rfl)) ((c_eq.fr (fl := true) Gs20 rfl).tr (c_eq.fr (fl := true) Gs10 rfl)) ((c_eq.fr (fl := true) Gs20 rfl).tr (c_eq.fr (fl := true) Gs10 rfl)) ((c_pg.fr (fl := true) (o := 44) Gs10 rfl).tr (c_pg.fr (fl := true) (o := 44) Gs20 rfl)) ((c_pg.fr (fl := true) (o := 88) Gs10 rfl).tr (c_pg.fr (fl := true) (o := 88) Gs20 rfl)) ((Gs20 98 1 rfl).trans (Gs10 98 1 rfl)) ((Gs20 98 2 rfl).trans (Gs10 98 2 rfl)) ((Gs20 62 0 rfl).trans (Gs10 62 0 rfl)) ((Gs20 62 1 rfl).trans (Gs10 62 1 rfl)) ((Gs20 110 0 rfl).trans (Gs10 110 0 rfl)) ((Gs20 110 1 rfl).trans (Gs10 110 1 rfl)) (funext (fun j => Gs20 20 j rfl)) (funext (fun j => Gs20 21 j rfl)) (funext (fun j => Gs10 99 j rfl)) (Gs10 98 1 rfl) (Gs10 98 2 rfl) (funext (fun j => Gs10 100 j rfl)) (funext (fun j => Gs10 111 j rfl)) (funext (fun j => Gs10 112 j rfl)) (funext (fun j => Gs10 113 j rfl)) ps10_0 ps20_0).1 (g_ti.e j3 ((funext (fun j => Gs20 100 j rfl)).trans (funext (fun j => Gs10 100 j rfl)))) (g_SH.e j4 ((funext (fun j => Gs20 94 j rfl)).trans (funext (fun j => Gs10 94 j rfl))) ((funext (fun j => Gs20 95 j rfl)).trans (funext (fun j => Gs10 95 j rfl))) ((funext (fun j => Gs20 96 j rfl)).trans (funext (fun j => Gs10 96 j rfl))) ((funext (fun j => Gs20 111 j rfl)).trans (funext (fun j => Gs10 111 j rfl))) ((funext (fun j => Gs20 112 j rfl)).trans (funext (fun j => Gs10 112 j rfl))) ((funext (fun j => Gs20 113 j rfl)).trans (funext (fun j => Gs10 113 j rfl))))
set_option maxHeartbeats 100000000 in
theorem g_case_1405 {ns : Nat} (hns : ns ≤ 320) (s0 : h_S) (I0 : h_I s0) (j0 : d_tape s0 s0) (j1 : s0 64 4 = s0 98 16) (j2 : c_R true s0) (j3 : g_ti s0) (j4 : g_SH s0) (y3 : Int32) (b3 : Int) (hy3 : y3.toInt = b3) (hr : 0 ≤ b3 ∧ b3 + 5 ≤ ns) {Q : Option Value → h_S → Prop} (kk : ∀ τ, h_I τ → (d_tape τ τ) → (τ 64 4 = τ 98 16) → (c_R true τ) → (g_ti τ) → (g_SH τ) → h_T g_P (g_Y ns) 225 1441 [(0, .ref 0), (1, .ref 9), (2, .ref 98), (3, .int y3)] [] τ Q) : h_T g_P (g_Y ns) 225 1405 [(0, .ref 0), (1, .ref 9), (2, .ref 98), (3, .int y3)] [] s0 Q := by
  have F0_ : h_F (fun _ _ => true) s0 s0 := h_F.rf
  have j0_ := j0.2
  have i0 := tf_64_1 I0
  have i1 := tf_98_11 I0
  have i2 := tf_64_4 I0
  have i3 := tf_98_16 I0
  refine h_aload_n (pc' := 1406) rfl rfl rfl ?_
  refine h_call (sp := false) (pc' := 1409) (M := [(0, .ref 9)]) rfl rfl rfl rfl rfl rfl rfl rfl ?_
  refine w_121_9 _ I0  (fun r1 br1 hr1 s2 Is2 Gs2 => h_Kv ?_)
  have Zs2 : ∀ i, s2 0 i = s0 0 i := fun i => (Gs2 0 i rfl).trans rfl
  have Fs2 : h_F (fun _ _ => true) s2 s0 := fun _ _ h => by cases h
  have es2_0 : s2 64 1 = s0 64 1 := (Gs2 64 1 rfl).trans rfl
  have es2_1 : s2 98 11 = s0 98 11 := (Gs2 98 11 rfl).trans rfl
  have es2_2 : s2 64 4 = s0 64 4 := (Gs2 64 4 rfl).trans rfl
  have es2_3 : s2 98 16 = s0 98 16 := (Gs2 98 16 rfl).trans rfl
  refine h_pop (pc' := 1410) rfl rfl rfl ?_
  clear hr1
  refine h_aload_n (pc' := 1411) rfl rfl rfl ?_
  refine h_call (sp := false) (pc' := 1414) (M := [(0, .ref 98)]) rfl rfl rfl rfl rfl rfl rfl rfl ?_
  refine w_223_98 _ Is2  (fun r3 br3 hr3 s4 Is4 Gs4 => h_Kv ?_)
  have Zs4 : ∀ i, s4 0 i = s0 0 i := fun i => (Gs4 0 i rfl).trans (Zs2 i)
  have Fs4 : h_F (fun _ _ => true) s4 s0 := fun _ _ h => by cases h
  have es4_0 : s4 64 1 = s0 64 1 := (Gs4 64 1 rfl).trans es2_0
  have es4_1 : s4 98 11 = s0 98 11 := (Gs4 98 11 rfl).trans es2_1
  have es4_2 : s4 64 4 = s0 64 4 := (Gs4 64 4 rfl).trans es2_2
  have es4_3 : s4 98 16 = s0 98 16 := (Gs4 98 16 rfl).trans es2_3
  clear es2_0 es2_1 es2_2 es2_3
  refine h_pop (pc' := 1415) rfl rfl rfl ?_
  clear hr3
  refine h_goto (pc' := 1441) rfl rfl ?_
  exact kk _ Is4 (by first | exact d_tape.le j0 (Int.le_antisymm (by omega) (by omega)) (by omega) (fun j => (Gs4 65 j rfl).trans ((Gs2 65 j rfl))) (fun j => (Gs4 102 j rfl).trans ((Gs2 102 j rfl))) | (exfalso; omega)) (Int.le_antisymm (by omega) (by omega)) (c_R.fr (c_R.fr j2 I0 Gs2 rfl) Is2 Gs4 rfl) (g_ti.e j3 ((funext (fun j => Gs4 100 j rfl)).trans (funext (fun j => Gs2 100 j rfl)))) (g_SH.e j4 ((funext (fun j => Gs4 94 j rfl)).trans (funext (fun j => Gs2 94 j rfl))) ((funext (fun j => Gs4 95 j rfl)).trans (funext (fun j => Gs2 95 j rfl))) ((funext (fun j => Gs4 96 j rfl)).trans (funext (fun j => Gs2 96 j rfl))) ((funext (fun j => Gs4 111 j rfl)).trans (funext (fun j => Gs2 111 j rfl))) ((funext (fun j => Gs4 112 j rfl)).trans (funext (fun j => Gs2 112 j rfl))) ((funext (fun j => Gs4 113 j rfl)).trans (funext (fun j => Gs2 113 j rfl))))
set_option maxHeartbeats 100000000 in
theorem g_case_1418 {ns : Nat} (hns : ns ≤ 320) (s0 : h_S) (I0 : h_I s0) (j0 : d_tape s0 s0) (j1 : s0 64 4 = s0 98 16) (j2 : c_R true s0) (j3 : g_ti s0) (j4 : g_SH s0) (y3 : Int32) (b3 : Int) (hy3 : y3.toInt = b3) (hr : 0 ≤ b3 ∧ b3 + 5 ≤ ns) {Q : Option Value → h_S → Prop} (kk : ∀ τ, h_I τ → (d_tape τ τ) → (τ 64 4 = τ 98 16) → (c_R true τ) → (g_ti τ) → (g_SH τ) → h_T g_P (g_Y ns) 225 1441 [(0, .ref 0), (1, .ref 9), (2, .ref 98), (3, .int y3)] [] τ Q) : h_T g_P (g_Y ns) 225 1418 [(0, .ref 0), (1, .ref 9), (2, .ref 98), (3, .int y3)] [] s0 Q := by
  have F0_ : h_F (fun _ _ => true) s0 s0 := h_F.rf
  have j0_ := j0.2
  have i0 := tf_64_1 I0
  have i1 := tf_98_11 I0
  have i2 := tf_64_4 I0
  have i3 := tf_98_16 I0
  have j2_ := j2.sz
  have j2i := j2.2.2.1
  have y62_0 := ty_62 I0 0
  have y62_1 := ty_62 I0 1
  have y110_0 := ty_110 I0 0
  have y110_1 := ty_110 I0 1
  refine h_aload_n (pc' := 1419) rfl rfl rfl ?_
  refine h_aload_n (pc' := 1420) rfl rfl rfl ?_
  refine h_iload_n (pc' := 1421) rfl rfl rfl ?_
  refine h_iconst (pc' := 1422) (x := (Int32.ofInt 1)) rfl rfl rfl ?_
  refine h_iadd (pc' := 1423) rfl rfl hy3 ci_1 rfl (by omega) (by omega) (fun z1 hz1 => ?_)
  refine h_iald (pc' := 1424) (v := s0 0 (b3 + 1)) rfl rfl rfl hz1 (by omega) (by omega) rfl (fun z2 hz2 => ?_)
  have tz2 := h_rgv hz2
  clear hz1
  refine h_call (sp := false) (pc' := 1427) (M := [(0, .ref 9), (1, .int z2)]) rfl rfl rfl rfl rfl rfl rfl rfl ?_
  refine w_122_9 _ I0 z2 _ hz2 (fun r3 br3 hr3 s4 Is4 Gs4 => h_Kv ?_)
  have Zs4 : ∀ i, s4 0 i = s0 0 i := fun i => (Gs4 0 i rfl).trans rfl
  have Fs4 : h_F (fun _ _ => true) s4 s0 := fun _ _ h => by cases h
  have es4_0 : s4 64 1 = s0 64 1 := (Gs4 64 1 rfl).trans rfl
  have es4_1 : s4 98 11 = s0 98 11 := (Gs4 98 11 rfl).trans rfl
  have es4_2 : s4 64 4 = s0 64 4 := (Gs4 64 4 rfl).trans rfl
  have es4_3 : s4 98 16 = s0 98 16 := (Gs4 98 16 rfl).trans rfl
  have es4_4 : s4 62 0 = s0 62 0 := (Gs4 62 0 rfl).trans rfl
  have es4_5 : s4 110 0 = s0 110 0 := (Gs4 110 0 rfl).trans rfl
  have es4_6 : s4 62 1 = s0 62 1 := (Gs4 62 1 rfl).trans rfl
  have es4_7 : s4 110 1 = s0 110 1 := (Gs4 110 1 rfl).trans rfl
  clear hz2
  refine h_pop (pc' := 1428) rfl rfl rfl ?_
  clear hr3
  refine h_aload_n (pc' := 1429) rfl rfl rfl ?_
  refine h_aload_n (pc' := 1430) rfl rfl rfl ?_
  refine h_iload_n (pc' := 1431) rfl rfl rfl ?_
  refine h_iconst (pc' := 1432) (x := (Int32.ofInt 1)) rfl rfl rfl ?_
  refine h_iadd (pc' := 1433) rfl rfl hy3 ci_1 rfl (by omega) (by omega) (fun z5 hz5 => ?_)
  refine h_iald (pc' := 1434) (v := s0 0 (b3 + 1)) rfl rfl rfl hz5 (by omega) (by omega) (Zs4 _) (fun z6 hz6 => ?_)
  have tz6 := h_rgv hz6
  clear hz5
  refine h_call (sp := false) (pc' := 1437) (M := [(0, .ref 98), (1, .int z6)]) rfl rfl rfl rfl rfl rfl rfl rfl ?_
  refine w_224_98 _ Is4 z6 _ hz6 (fun r7 br7 hr7 s8 Is8 Gs8 => h_Kv ?_)
  have Zs8 : ∀ i, s8 0 i = s0 0 i := fun i => (Gs8 0 i rfl).trans (Zs4 i)
  have Fs8 : h_F (fun _ _ => true) s8 s0 := fun _ _ h => by cases h
  have es8_0 : s8 64 1 = s0 64 1 := (Gs8 64 1 rfl).trans es4_0
  have es8_1 : s8 98 11 = s0 98 11 := (Gs8 98 11 rfl).trans es4_1
  have es8_2 : s8 64 4 = s0 64 4 := (Gs8 64 4 rfl).trans es4_2
  have es8_3 : s8 98 16 = s0 98 16 := (Gs8 98 16 rfl).trans es4_3
  have es8_4 : s8 62 0 = s0 62 0 := (Gs8 62 0 rfl).trans es4_4
  have es8_5 : s8 110 0 = s0 110 0 := (Gs8 110 0 rfl).trans es4_5
  have es8_6 : s8 62 1 = s0 62 1 := (Gs8 62 1 rfl).trans es4_6
  have es8_7 : s8 110 1 = s0 110 1 := (Gs8 110 1 rfl).trans es4_7
  clear es4_0 es4_1 es4_2 es4_3 es4_4 es4_5 es4_6 es4_7
  clear hz6
  refine h_pop (pc' := 1438) rfl rfl rfl ?_
  clear hr7
  refine h_goto (pc' := 1441) rfl rfl ?_
  exact kk _ Is8 (by first | exact d_tape.le j0 (Int.le_antisymm (by omega) (by omega)) (by omega) (fun j => (Gs8 65 j rfl).trans ((Gs4 65 j rfl))) (fun j => (Gs8 102 j rfl).trans ((Gs4 102 j rfl))) | (exfalso; omega)) (Int.le_antisymm (by omega) (by omega)) (c_R.fr (c_R.fr j2 I0 Gs4 rfl) Is4 Gs8 rfl) (g_ti.e j3 ((funext (fun j => Gs8 100 j rfl)).trans (funext (fun j => Gs4 100 j rfl)))) (g_SH.e j4 ((funext (fun j => Gs8 94 j rfl)).trans (funext (fun j => Gs4 94 j rfl))) ((funext (fun j => Gs8 95 j rfl)).trans (funext (fun j => Gs4 95 j rfl))) ((funext (fun j => Gs8 96 j rfl)).trans (funext (fun j => Gs4 96 j rfl))) ((funext (fun j => Gs8 111 j rfl)).trans (funext (fun j => Gs4 111 j rfl))) ((funext (fun j => Gs8 112 j rfl)).trans (funext (fun j => Gs4 112 j rfl))) ((funext (fun j => Gs8 113 j rfl)).trans (funext (fun j => Gs4 113 j rfl))))
