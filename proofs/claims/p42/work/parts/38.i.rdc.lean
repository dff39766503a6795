/-! BOTH READINGS -/
theorem g_hf_eq {n : Int} {t P P' G G' S : Int → Int} : ∀ (m : Nat) (S' : Int → Int), (∀ i : Int, 0 ≤ i → i < m → P i = P' i ∧ G i = G' i) → g_hf n t P G S m S' → g_hf n t P' G' S m S'
  | 0, _, _, h => h
  | m + 1, S', hp, ⟨S1, h1, h2⟩ => by
    have y := hp (m : Int) (by omega) (by omega)
    refine ⟨S1, g_hf_eq m S1 (fun i a b => hp i a (by omega)) h1, ?_⟩
    rw [← y.1, ← y.2]
    exact h2
theorem g_SH.rd {s : h_S} {k lane a n : Int} (h : g_SH s) (hl : s 10 8 = s 98 1) (hg : s 10 9 = s 98 2) (k0 : 0 ≤ k) (k3 : k ≤ 3) : ∀ i, 0 ≤ i → i < n → (fun i => g_fz (s 96 k) (s 95 k) lane (a + 2 * i)) i = (fun i => g_fz (g_mz (s 111 k) (s 112 k)) (s 111 k) lane (a + 2 * i)) i ∧ ((fun i => g_fz (s 96 k) (s 95 k) lane (a + 2 * i)) i = 0 → (fun i => g_ok (s 10 8) (s 10 9) (s 94 (k * 40 + (a + 2 * i))) (s 94 (k * 40 + (a + 2 * i + 1)))) i = (fun i => g_ok (s 98 1) (s 98 2) (s 113 (40 * k + (a + 2 * i))) (s 113 (40 * k + (a + 2 * i + 1)))) i) := fun i i0 i1 => by
  show g_fz (s 96 k) (s 95 k) lane (a + 2 * i) = g_fz (g_mz (s 111 k) (s 112 k)) (s 111 k) lane (a + 2 * i) ∧ (g_fz (s 96 k) (s 95 k) lane (a + 2 * i) = 0 → g_ok (s 10 8) (s 10 9) (s 94 (k * 40 + (a + 2 * i))) (s 94 (k * 40 + (a + 2 * i + 1))) = g_ok (s 98 1) (s 98 2) (s 113 (40 * k + (a + 2 * i))) (s 113 (40 * k + (a + 2 * i + 1))))
  have v := g_fz_v (z := s 96 k) (ln := s 95 k) (lane := lane) (e := a + 2 * i)
  have v' := g_fz_v (z := g_mz (s 111 k) (s 112 k)) (ln := s 111 k) (lane := lane) (e := a + 2 * i)
  have z := g_mz_v (l := s 111 k) (n := s 112 k)
  rcases h k k0 k3 with y | ⟨y1, y2, y3, y4, y5⟩
  · refine ⟨by omega, fun c => ?_⟩
    exfalso
    omega
  · refine ⟨by omega, fun c => ?_⟩
    rw [hl, hg, y5 (a + 2 * i) (by omega) (by omega), y5 (a + 2 * i + 1) (by omega) (by omega)]
theorem c_R.readR {s s1 s' : h_S} {k lane a n bX bM : Int} (h : c_R true s) (hI : h_I s) (ht : g_ti s) (hs : g_SH s) (ec : c_eq false s' 10 s 10) (e1 : c_eq true s' 36 s 36) (e2 : c_eq true s' 49 s 49) (p1 : c_pg true (fun j => s 99 (44 + j)) (fun j => s' 99 (44 + j))) (p2 : c_pg true (fun j => s 99 (88 + j)) (fun j => s' 99 (88 + j))) (q1 : s' 98 1 = s 98 1) (q2 : s' 98 2 = s 98 2) (i0 : s' 62 0 = s 62 0) (i1 : s' 62 1 = s 62 1) (n0 : s' 110 0 = s 110 0) (n1 : s' 110 1 = s 110 1) (w20 : s' 20 = s1 20) (w21 : s' 21 = s1 21) (w99 : s1 99 = s 99) (w981 : s1 98 1 = s 98 1) (w982 : s1 98 2 = s 98 2) (w100 : s1 100 = s 100) (w111 : s1 111 = s 111) (w112 : s1 112 = s 112) (w113 : s1 113 = s 113)
    (hX : ((¬ (0 ≤ k ∧ k ≤ 3 ∧ 0 ≤ lane ∧ lane ≤ 2 ∧ 0 ≤ n ∧ n ≤ 20)) ∧ bX = -1 ∧ s1 = s) ∨ ((0 ≤ k ∧ k ≤ 3 ∧ 0 ≤ lane ∧ lane ≤ 2 ∧ 0 ≤ n ∧ n ≤ 20) ∧ ∃ w f, (w, f) = g_rd (fun i => g_fz (s 96 k) (s 95 k) lane (a + 2 * i)) (fun i => g_ok (s 10 8) (s 10 9) (s 94 (k * 40 + (a + 2 * i))) (s 94 (k * 40 + (a + 2 * i + 1)))) n.toNat 0 ∧ bX = w ∧ ((w < 0 ∧ s1 = s) ∨ (0 ≤ w ∧ s1 9 12 = f ∧ g_DX (s 10 8) (s 12) (s 11) (s 13 2) (s 14) (s 15) (s1 80) ∧ g_FX (s 10 8) (s 17) (s 18) (s 16 2) (s1 81) ∧ (s1 20, s1 21) = g_gfo (fun p l g => g_yX (s 10 8) (s1 80) (s1 81) p l (s 19 g)) (fun i => s 94 (k * 40 + (a + 2 * i))) (fun i => s 94 (k * 40 + (a + 2 * i + 1))) (s 20, s 21) w.toNat))))
    (hM : ((¬ (0 ≤ k ∧ k ≤ 3 ∧ 0 ≤ lane ∧ lane ≤ 2 ∧ 0 ≤ n ∧ n ≤ 20)) ∧ bM = -1 ∧ s' 99 = s1 99 ∧ s' 98 36 = s1 98 36) ∨ ((0 ≤ k ∧ k ≤ 3 ∧ 0 ≤ lane ∧ lane ≤ 2 ∧ 0 ≤ n ∧ n ≤ 20) ∧ ∃ w f S0, (w, f) = g_rd (fun i => g_fz (g_mz (s1 111 k) (s1 112 k)) (s1 111 k) lane (a + 2 * i)) (fun i => g_ok (s1 98 1) (s1 98 2) (s1 113 (40 * k + (a + 2 * i))) (s1 113 (40 * k + (a + 2 * i + 1)))) n.toNat 0 ∧ bM = w ∧ g_rp S0 (s1 99) ∧ ((w < 0 ∧ (∀ j, 0 ≤ j → j < 44 → s' 99 j = s1 99 j) ∧ s' 98 36 = s1 98 36) ∨ (0 ≤ w ∧ s' 98 36 = f ∧ g_hf (s1 98 1) (s1 100) (fun i => s1 113 (40 * k + (a + 2 * i))) (fun i => s1 113 (40 * k + (a + 2 * i + 1))) S0 w.toNat (s' 99))))) : c_R true s' ∧ bX = bM ∧ (s' 9 12 = s1 9 12 → s1 98 36 = s 98 36 → s 9 12 = s 98 36 → s' 9 12 = s' 98 36) := by
  have sz := h.sz
  rw [w99, w981, w982, w100, w111, w112, w113] at hM
  have same : s1 = s → (∀ j, 0 ≤ j → j < 44 → s' 99 j = s 99 j) → c_R true s' := fun e ep =>
    h.mk' hI q1 q2 (ec.tt (fun j _ _ => by show s' 20 j = s 20 j; rw [w20, e]) (fun j _ _ => by show s' 21 j = s 21 j; rw [w21, e])) e1 e2 (c_pg.all (fun j a b => by show s' 99 (0 + j) = s 99 (0 + j); rw [ep (0 + j) (by omega) (by omega)])) p1 p2 i0 i1 n0 n1
  rcases hX with ⟨x1, x2, x3⟩ | ⟨x1, w, f, x2, x3, x4⟩
  · rcases hM with ⟨m1, m2, m3, m4⟩ | ⟨m1, m2⟩
    · exact ⟨same x3 (fun j _ _ => by rw [m3]), by omega, fun a b c => by rw [a, m4, x3]; exact c⟩
    · exact absurd m1 x1
  · rcases hM with ⟨m1, m2⟩ | ⟨m1, w', f', S0, m2, m3, m4, m5⟩
    · exact absurd x1 m1
    · have eT := g_rd_eq (hs.rd (lane := lane) (a := a) (n := n) sz.1 sz.2.1 x1.1 x1.2.1) n.toNat 0 (by omega) (by omega)
      have e : (w, f) = (w', f') := x2.trans (eT.trans m2.symm)
      have ew : w = w' := congrArg Prod.fst e
      have ef : f = f' := congrArg Prod.snd e
      subst ew; subst ef
      refine ⟨?_, by omega, fun a b c => ?_⟩
      · rcases x4 with ⟨y1, y2⟩ | ⟨y1, y2, y3, y4, y5⟩
        · rcases m5 with ⟨z1, z2, z3⟩ | ⟨z1, z2⟩
          · exact same y2 z2
          · exfalso
            omega
        · rcases m5 with ⟨z1, z2⟩ | ⟨z1, z2, z3⟩
          · exfalso
            omega
          · have rz := g_rd_z x2 y1
            have rw' := g_rd_w y1 n.toNat 0 (by omega) x2.symm
            have cell : ∀ i : Int, 0 ≤ i → i < (w.toNat : Int) → s 113 (40 * k + (a + 2 * i)) = s 94 (k * 40 + (a + 2 * i)) ∧ s 113 (40 * k + (a + 2 * i + 1)) = s 94 (k * 40 + (a + 2 * i + 1)) := fun i a0 b0 => by
              have zz : g_fz (s 96 k) (s 95 k) lane (a + 2 * i) = 0 := (rw'.2.2 i a0 (by omega)).1
              have v := g_fz_v (z := s 96 k) (ln := s 95 k) (lane := lane) (e := a + 2 * i)
              rcases hs k x1.1 x1.2.1 with y | ⟨u1, u2, u3, u4, u5⟩
              · exfalso
                omega
              · exact ⟨(u5 (a + 2 * i) (by omega) (by omega)).symm, (u5 (a + 2 * i + 1) (by omega) (by omega)).symm⟩
            refine c_R.rdR (P := fun i => s 94 (k * 40 + (a + 2 * i))) (G := fun i => s 94 (k * 40 + (a + 2 * i + 1))) (m := w.toNat) (S0 := S0) (S' := s' 99) h hI ht y3 y4 ec e1 e2 p1 p2 q1 q2 i0 i1 n0 n1 (fun i a0 b0 => ?_) (by rw [w20, w21]; exact y5) (fun j a0 b0 => m4.1 j a0 (by omega)) rfl rfl (g_hf_eq w.toNat (s' 99) cell z3) (fun j _ _ => rfl)
            have o := g_ok_e (rz.2.2 i a0 (by omega))
            exact ⟨⟨o.1, o.2.1⟩, ⟨o.2.2.1, o.2.2.2⟩⟩
      · rcases x4 with ⟨y1, y2⟩ | ⟨y1, y2, -⟩
        · rcases m5 with ⟨z1, z2, z3⟩ | ⟨z1, z2⟩
          · rw [a, z3, y2]
            exact c
          · exfalso
            omega
        · rcases m5 with ⟨z1, z2⟩ | ⟨z1, z2, z3⟩
          · exfalso
            omega
          · rw [a, y2, z2]
/-! CELLS LAID, SHEETS AT THE START -/
theorem g_SH.ar {s : h_S} (h : g_SH s) {k : Int} (k0 : 0 ≤ k) (k3 : k ≤ 3) : (s 96 k = -4 ∧ s 111 k = -4) ∨ (s 96 k = s 112 k ∧ 0 ≤ s 96 k ∧ s 95 k = s 111 k ∧ 0 ≤ s 111 k) := by
  rcases h k k0 k3 with y | y
  · exact Or.inl y
  · exact Or.inr ⟨y.1, y.2.1, y.2.2.1, y.2.2.2.1⟩
theorem g_SH.mk {s : h_S} (a0 : s 96 0 = -4) (b0 : s 111 0 = -4) (a1 : s 96 1 = -4) (b1 : s 111 1 = -4) (a2 : s 96 2 = -4) (b2 : s 111 2 = -4) (a3 : s 96 3 = -4) (b3 : s 111 3 = -4) : g_SH s := fun k k0 k3 => by
  have c : k = 0 ∨ k = 1 ∨ k = 2 ∨ k = 3 := by omega
  rcases c with c | c | c | c
  · rw [c]; exact Or.inl ⟨a0, b0⟩
  · rw [c]; exact Or.inl ⟨a1, b1⟩
  · rw [c]; exact Or.inl ⟨a2, b2⟩
  · rw [c]; exact Or.inl ⟨a3, b3⟩
theorem g_zr_t {f f' g g' : Int → Int} {b c : Int} (h : g_zr f f' b c) (e : g' = f') (e' : f = g) : g_zr g g' b c := by
  subst e; subst e'
  exact h
theorem g_bw8 (v : BitVec 32) : (v.setWidth 8).signExtend 32 = (v <<< 24).sshiftRight 24 := by
  refine BitVec.eq_of_getLsbD_eq (fun i hi => ?_)
  rw [BitVec.getLsbD_signExtend, BitVec.getLsbD_sshiftRight, decide_eq_true hi, decide_eq_false (show ¬ 32 ≤ i by omega)]
  by_cases c : i < 8
  · rw [if_pos c, if_pos (by omega), BitVec.getLsbD_setWidth, BitVec.getLsbD_shiftLeft, decide_eq_true c, decide_eq_true (show 24 + i < 32 by omega), decide_eq_false (show ¬ 24 + i < 24 by omega), show 24 + i - 24 = i by omega]
    simp
  · rw [if_neg c, if_neg (by omega), BitVec.msb_eq_getLsbD_last, BitVec.msb_eq_getLsbD_last, BitVec.getLsbD_setWidth, BitVec.getLsbD_shiftLeft]
    simp
theorem g_b16 (v : BitVec 32) : (v.setWidth 16).signExtend 32 = (v <<< 16).sshiftRight 16 := by
  refine BitVec.eq_of_getLsbD_eq (fun i hi => ?_)
  rw [BitVec.getLsbD_signExtend, BitVec.getLsbD_sshiftRight, decide_eq_true hi, decide_eq_false (show ¬ 32 ≤ i by omega)]
  by_cases c : i < 16
  · rw [if_pos c, if_pos (by omega), BitVec.getLsbD_setWidth, BitVec.getLsbD_shiftLeft, decide_eq_true c, decide_eq_true (show 16 + i < 32 by omega), decide_eq_false (show ¬ 16 + i < 16 by omega), show 16 + i - 16 = i by omega]
    simp
  · rw [if_neg c, if_neg (by omega), BitVec.msb_eq_getLsbD_last, BitVec.msb_eq_getLsbD_last, BitVec.getLsbD_setWidth, BitVec.getLsbD_shiftLeft]
    simp
theorem g_se8 (v : BitVec 32) : v.signExtend 8 = v.setWidth 8 := BitVec.eq_of_getLsbD_eq (fun i hi => by
  rw [BitVec.getLsbD_signExtend, BitVec.getLsbD_setWidth, if_pos (show i < 32 by omega)])
theorem g_ly8 {z w u x y : Int32} (hz : z = x.toInt8.toInt32) (hw : w = y <<< ((Int32.ofInt 24) &&& 31)) (hu : u = w >>> ((Int32.ofInt 24) &&& 31)) (hxy : x.toInt = y.toInt) : z.toInt = u.toInt := by
  have e : x = y := h_ieq.mpr hxy
  subst e
  have e2 : z = u := by
    rw [hz, hu, hw]
    have a1 : (x <<< ((Int32.ofInt 24) &&& 31)).toBitVec = x.toBitVec <<< 24 := rfl
    have a2 : ∀ q : Int32, (q >>> ((Int32.ofInt 24) &&& 31)).toBitVec = q.toBitVec.sshiftRight 24 := fun _ => rfl
    exact Int32.toBitVec_inj.1 ((show x.toInt8.toInt32.toBitVec = (x.toBitVec.signExtend 8).signExtend 32 from rfl).trans ((congrArg (BitVec.signExtend 32) (g_se8 x.toBitVec)).trans ((g_bw8 x.toBitVec).trans (by rw [a2, a1]))))
  rw [e2]
theorem g_se16 (v : BitVec 32) : v.signExtend 16 = v.setWidth 16 := BitVec.eq_of_getLsbD_eq (fun i hi => by
  rw [BitVec.getLsbD_signExtend, BitVec.getLsbD_setWidth, if_pos (show i < 32 by omega)])
theorem g_ly16 {z w u x y : Int32} (hz : z = x.toInt16.toInt32) (hw : w = y <<< ((Int32.ofInt 16) &&& 31)) (hu : u = w >>> ((Int32.ofInt 16) &&& 31)) (hxy : x.toInt = y.toInt) : z.toInt = u.toInt := by
  have e : x = y := h_ieq.mpr hxy
  subst e
  have e2 : z = u := by
    rw [hz, hu, hw]
    have a1 : (x <<< ((Int32.ofInt 16) &&& 31)).toBitVec = x.toBitVec <<< 16 := rfl
    have a2 : ∀ q : Int32, (q >>> ((Int32.ofInt 16) &&& 31)).toBitVec = q.toBitVec.sshiftRight 16 := fun _ => rfl
    exact Int32.toBitVec_inj.1 ((show x.toInt16.toInt32.toBitVec = (x.toBitVec.signExtend 16).signExtend 32 from rfl).trans ((congrArg (BitVec.signExtend 32) (g_se16 x.toBitVec)).trans ((g_b16 x.toBitVec).trans (by rw [a2, a1]))))
  rw [e2]
