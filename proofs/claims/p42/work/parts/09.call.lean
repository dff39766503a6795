/-! THE CALLS, AND SOUNDNESS OF RUNS OF ANY LENGTH -/
section ECL
variable {p : Program} {l : Launch} {e : Env} {R : Room} {s : State} {m : MethodId} {args : Array Value} {below : List Frame} {meth : Method} {c : Code} {Q : State → Prop}
variable {P : e_Pg} {D : va_G} {cl : List vw_C} {Ts Ns : List Cond} {ad : Nat → Nat} {base n0 z0 k : Nat}
theorem e_back {pc : Nat} {lv : List (Nat × Value)} {rest : List Value} {mem mem2 : List e_C} {r : Option Value} {st0 : List Value} {a : Array Value} {H : Heap} {locs : List Loc} {cells slots : Nat} {ls : Array Slot} (hle : e_le mem mem2)
    (hr : va_Run p l e R s m args below meth c H locs cells slots (mem2.length - mem.length) (e_sl mem2 - e_sl mem) (F0 m pc ls st0) (rest.map (e_cv ad)) (e_Qc P D ad base r mem2 a) (fun q => base ≤ q))
    (hlo : ∀ x ∈ locs, base ≤ x.base) (hl : lv_has ls (e_mth P k).2.2.1 (e_lv ad lv)) (hc : cells + n0 = mem.length) (hs : slots + z0 = e_sl mem)
    (kk : e_W p l e R s m args below meth c Q P D ad base n0 z0 k (pc + 3) lv (r.toList ++ rest) mem2) : W p l e R s m args below meth c H locs cells slots Q (F0 m pc ls st0) := by
  obtain ⟨le1, le2⟩ := hle
  intro T hT X
  obtain ⟨v, st₀, t, T', L, h0, X', hL, e1, e2, ⟨hv, hPt, hzt⟩, st⟩ := hr T hT X
  have hv : v = r.map (e_cv ad) := Outcome.returned.inj hv
  subst hv
  obtain ⟨t2, a1, b1⟩ := kk T'.heap (locs ++ L) _ _ ls (by rw [e1]; exact hPt.moved (by rw [← e2]; exact X'.warmed.alike.symm)) (by rw [e1]; exact hzt) (fun x hx => by
      rcases List.mem_append.mp hx with hx | hx
      · exact hlo x hx
      · exact hL x hx) hl (by omega) (by omega) T' rfl X'
  refine ⟨t2, st t2 ?_, b1⟩
  have es : (r.map (e_cv ad)).toList ++ rest.map (e_cv ad) = (r.toList ++ rest).map (e_cv ad) := by
    rw [List.map_append]
    cases r <;> rfl
  rw [es]
  exact a1
theorem e_good (G : e_GD P cl Ts Ns) {j : Nat} (h : Cond.code (e_mth P j).1 (e_mth P j).2.1 (e_mth P j).2.2.1 (e_mth P j).2.2.2 ∈ Ts) : GoodIn Ts (e_ws P Ts j) := by
  obtain ⟨-, -, -, -, -, ⟨-, -, -, -, hg, -⟩, -⟩ := G
  intro w hw
  rcases List.mem_cons.mp hw with rfl | hw
  · exact ⟨h, good_of_word (hg _ h)⟩
  · exact ⟨hw, good_of_word (hg w hw)⟩
theorem e_pre (hN : e_gN Ns) {H : Heap} {vs : List Value} {mem : List e_C} (hns : ∀ w ∈ Ns, va_Nw w s) (hK : va_K D cl [] s) (h8 : e_K s ad) (hP : e_P s D ad mem H) (hz : H.size + e_ro P = base + mem.length) : PreS s H (e_Pc P D cl Ns ad base vs mem) (vs.map (e_cv ad)) := by
  refine ⟨e_blind hN, fun U hU hW => ⟨rfl, by rw [hU]; exact hP.moved hW.alike, by rw [hU]; exact hz, hK.moved hW.alike, fun w hw => ?_, fun i hi => (h8 i hi).warm hW⟩⟩
  obtain ⟨x1, x2, x3, x4, rfl⟩ := hN w hw
  exact va_Nw.warmM hW (hns _ hw)
theorem e_s_inv {n : Nat} (G : e_GD P cl Ts Ns) (hS : e_S l P D cl Ts Ns ad base n) (hA : e_AD ad (e_ro P) base) (X : e_X p s m args meth c P D cl Ts Ns ad k) {pc i : Nat} {sp : Bool} {lv : List (Nat × Value)} {st : List Value} {mem mem' : List e_C} {r : Option Value} (hd : decode (e_mth P k).2.1 pc = .ok (bif sp then .invokespecial i else .invokevirtual i, 3)) (h : e_inv P (e_run P n) k pc lv st mem sp i = some (r, mem')) (hmem : e_ro P ≤ mem.length)
    (hRf : (e_rmo P k).1 ≤ R.frames) (hRl : (e_rmo P k).2.1 ≤ R.locals) (hRc : mem'.length ≤ R.cells + n0) (hRs : e_sl mem' ≤ R.slots + z0)
    (hret : ∀ (pc' : Nat) (i : Instr) (lv' : List (Nat × Value)) (st' : List Value), decode (e_mth P k).2.1 pc' = .ok (i, 1) → e_ret (e_mth P k).2.2.2 i st' = some r → e_W p l e R s m args below meth c Q P D ad base n0 z0 k pc' lv' st' mem') : e_W p l e R s m args below meth c Q P D ad base n0 z0 k pc lv st mem := by
  obtain ⟨hx, hb, hml, hown, hts, hns, hK, hname⟩ := id X
  obtain ⟨-, -, -, -, -, ⟨-, -, gi, gc0, -⟩, gm, gN⟩ := id G
  unfold e_inv at h
  cases hcal : e_cal P k i with
  | none => rw [hcal] at h; cases h
  | some f =>
    rw [hcal] at h
    dsimp only at h
    split at h
    · next q rest hdrop =>
      have hst : st = (st.take f.2.1).reverse.reverse ++ .ref q :: rest := by rw [List.reverse_reverse, ← hdrop, List.take_append_drop]
      by_cases h0 : f.1 = 0
      · rw [h0] at h
        simp only [beq_self_eq_true, cond_true] at h
        cases hcnd : (sp && (f.2.1 == 0 && (f.2.2.1 == 0 && (e_low rest && (Nat.ble 1 (e_rmo P k).1 && Nat.ble 20 (e_rmo P k).2.1))))) with
        | false =>
          rw [hcnd] at h
          simp only [cond_false] at h
          exact e_s_str G hS hA X hcal h0 hd h hmem hRf hRl hRc hRs hret
        | true =>
          rw [hcnd] at h
          simp only [cond_true] at h
          simp only [Bool.and_eq_true, beq_iff_eq, Nat.ble_eq] at hcnd
          obtain ⟨rfl, hn0, hk0, hlow, hf1, hl20⟩ := hcnd
          have kk := hS k (pc + 3) lv rest mem r mem' h hmem p e R s m args below meth c Q n0 z0 X hRf hRl hRc hRs hret
          rcases gm k i f hcal with ⟨-, ⟨-, hlink⟩ | ⟨hk95, -⟩ | ⟨hk94, -⟩ | ⟨hk98, -⟩ | ⟨hk97, -⟩ | ⟨hk96, -⟩⟩ | ⟨hne, -⟩
          · intro H locs cells slots ls hP hz hlo hl hc hs
            have est : st.map (e_cv ad) = .ref (ad q) :: rest.map (e_cv ad) := by rw [hst, hn0]; rfl
            have hsum : ((rest.map (e_cv ad)).map fun v => v.category).sum ≤ 8 := by rw [e_catsum]; exact Nat.le_of_ble_eq_true hlow
            rw [est]
            have hroom := lv_room (m := m) (pc := pc) (ls := ls) (rest := .ref (ad q) :: rest.map (e_cv ad)) hsum
            exact W.objInit hx hb hown (hts _ hlink) (hts _ gi) (hts _ gc0) rfl (by rw [hml]; exact hl.1) rfl hd (by omega) (by omega) (kk H locs cells slots ls hP hz hlo hl hc hs)
          · rw [hk0] at hk95; cases hk95
          · rw [hk0] at hk94; cases hk94
          · rw [hk0] at hk98; cases hk98
          · rw [hk0] at hk97; cases hk97
          · rw [hk0] at hk96; cases hk96
          · exact absurd h0 hne
      · have hb0 : (f.1 == 0) = false := by simpa using h0
        rw [hb0] at h
        simp only [cond_false] at h
        split at h
        · next o ho =>
          cases hcnd : (o.1 == f.2.2.1 && (!(f.2.2.1 == 99) && (e_low rest && (e_room P k f.1 (.ref q :: (st.take f.2.1).reverse) && (sp == (e_rmo P f.1).2.2))))) with
          | false => rw [hcnd] at h; cases h
          | true =>
            rw [hcnd] at h
            simp only [cond_true] at h
            unfold e_room at hcnd
            simp only [Bool.and_eq_true, beq_iff_eq, Nat.ble_eq, Bool.not_eq_true', beq_eq_false_iff_ne] at hcnd
            obtain ⟨eo, h99, hlow, ⟨hvs, hrf, hrl⟩, hsp⟩ := hcnd
            unfold e_aft at h
            split at h
            · next y hy =>
              obtain ⟨r2, mem2⟩ := y
              have le0 := e_run_le _ _ _ _ _ _ _ hy
              have le1 := e_run_le _ _ _ _ _ _ _ h
              dsimp only at le0 le1 h
              have kk := hS k (pc + 3) lv _ mem2 r mem' h (Nat.le_trans hmem le0.1) p e R s m args below meth c Q n0 z0 X hRf hRl hRc hRs hret
              rcases gm k i f hcal with ⟨hz0, -⟩ | ⟨-, wcode, wini, whn, wpl, wpar, wlink, wkind⟩
              · exact absurd hz0 h0
              · rcases wkind with ⟨w99, -⟩ | ⟨-, winst, ⟨T, N, wcl⟩, wk⟩
                · exact absurd w99 h99
                · have hM := e_met hS hy hmem wpl hvs
                  intro H locs cells slots ls hP hz hlo hl hc hs
                  obtain ⟨cell, h1, h2, h3, -⟩ := (hP.1 q _ ho).obj (fun e => h99 (by rw [← eo, e]))
                  have hcls : s.vm.findClass (e_mth P f.1).1.cls = some cell.cls := by
                    obtain ⟨-, hfc, -⟩ := hK.1 f.2.2.1 _ wcl
                    rw [h2, eo]
                    exact hfc
                  have hfl : f.2.1 ≤ st.length := by
                    have := congrArg List.length hdrop
                    simp only [List.length_drop, List.length_cons] at this
                    omega
                  have hn : ((st.take f.2.1).reverse.map (e_cv ad)).length = f.2.1 := by simp; omega
                  have hsum : ((rest.map (e_cv ad)).map fun v => v.category).sum ≤ 8 := by rw [e_catsum]; exact Nat.le_of_ble_eq_true hlow
                  have hstack : st.map (e_cv ad) = ((st.take f.2.1).reverse.map (e_cv ad)).reverse ++ .ref (ad q) :: rest.map (e_cv ad) := by
                    rw [← List.map_reverse, List.reverse_reverse]
                    conv => lhs; rw [← List.take_append_drop f.2.1 st, hdrop, List.map_append]
                    rfl
                  have hroom := lv_room (m := m) (pc := pc) (ls := ls) (rest := st.map (e_cv ad)) hsum
                  have hf : cells + (mem2.length - mem.length) ≤ R.cells ∧ slots + (e_sl mem2 - e_sl mem) ≤ R.slots := by
                    obtain ⟨a1, a2⟩ := le0
                    obtain ⟨b1, b2⟩ := le1
                    constructor <;> omega
                  have hpre := e_pre (P := P) (base := base) (vs := .ref q :: (st.take f.2.1).reverse) gN hns hK hname.2 hP hz
                  have hRR : (e_rm P f.1 mem mem2).frames + 1 ≤ R.frames ∧ 8 + ((e_mth P f.1).2.2.1 + 11) + (e_rm P f.1 mem mem2).locals ≤ R.locals := ⟨Nat.le_trans hrf hRf, Nat.le_trans hrl hRl⟩
                  have hcf : CallFix p m c (e_mth P k).2.1 (e_mth P k).2.2.1 s args Ts (e_mth P k).1.cls := ⟨hx, hb, hml, hown, hts⟩
                  have hpar := fun sig (hg : parseMethodDescriptor (e_mth P f.1).1.desc = some sig) => (by rw [hg] at wpar; exact (Option.some.inj wpar).symm : f.2.1 = sig.parameters.length)
                  have hgd := e_good G wcode
                  cases sp with
                  | false =>
                    rcases wk with ⟨wb, -⟩ | ⟨-, wsel⟩
                    · rw [wb] at hsp; cases hsp
                    · rcases wlink with ⟨-, wl⟩ | ⟨-, host, wl⟩
                      · exact e_back le0 (va_runV hcf hM ⟨callB_of f.2.1 hts hgd rfl rfl rfl (hts _ wini) (hts _ wl) ⟨whn.1, whn.2, wpar⟩ hRR, hts _ winst, hts _ wsel⟩ ⟨hpre.1, ⟨cell, h1, by rw [h3]; rfl, hcls⟩, hpre.2⟩ rfl hn hl.1 hstack hroom hd hf) hlo hl hc hs kk
                      · exact e_back le0 (va_runVN hcf hM ⟨va_cnB f.2.1 hts hgd rfl rfl rfl (hns _ wl) (hts _ wini) ⟨whn.1, whn.2, wpar⟩ hRR, hts _ winst, hts _ wsel⟩ ⟨hpre.1, ⟨cell, h1, by rw [h3]; rfl, hcls⟩, hpre.2⟩ rfl hn hl.1 hstack hroom hd hf) hlo hl hc hs kk
                  | true =>
                    rcases wk with ⟨-, wnm, wno⟩ | ⟨wb, -⟩
                    · rcases wlink with ⟨-, wl⟩ | ⟨-, host, wl⟩
                      · have cb := callB_of (R := R) (rm := e_rm P f.1 mem mem2) f.2.1 hts hgd rfl rfl rfl (hts _ wini) (hts _ wl) ⟨whn.1, whn.2, wpar⟩ hRR
                        rw [wno] at cb
                        exact e_back le0 (va_runI hcf hM ⟨cb, wnm, hts _ winst⟩ hpre rfl hn hl.1 hstack hroom hd hf) hlo hl hc hs kk
                      · have cb := va_cnB (R := R) (rm := e_rm P f.1 mem mem2) f.2.1 hts hgd rfl rfl rfl (hns _ wl) (hts _ wini) ⟨whn.1, whn.2, wpar⟩ hRR
                        rw [wno] at cb
                        exact e_back le0 (va_runIN hcf hM ⟨cb, wnm, hts _ winst⟩ hpre rfl hn hl.1 hstack hroom hd hf) hlo hl hc hs kk
                    · rw [wb] at hsp; cases hsp
            · cases h
        · cases h
    · cases h
theorem e_s_ivs {n : Nat} (G : e_GD P cl Ts Ns) (hS : e_S l P D cl Ts Ns ad base n) (hA : e_AD ad (e_ro P) base) (X : e_X p s m args meth c P D cl Ts Ns ad k) {pc i : Nat} {lv : List (Nat × Value)} {st : List Value} {mem mem' : List e_C} {r : Option Value} (hd : decode (e_mth P k).2.1 pc = .ok (.invokestatic i, 3)) (h : e_ivs P (e_run P n) k pc lv st mem i = some (r, mem')) (hmem : e_ro P ≤ mem.length)
    (hRf : (e_rmo P k).1 ≤ R.frames) (hRl : (e_rmo P k).2.1 ≤ R.locals) (hRc : mem'.length ≤ R.cells + n0) (hRs : e_sl mem' ≤ R.slots + z0)
    (hret : ∀ (pc' : Nat) (i : Instr) (lv' : List (Nat × Value)) (st' : List Value), decode (e_mth P k).2.1 pc' = .ok (i, 1) → e_ret (e_mth P k).2.2.2 i st' = some r → e_W p l e R s m args below meth c Q P D ad base n0 z0 k pc' lv' st' mem') : e_W p l e R s m args below meth c Q P D ad base n0 z0 k pc lv st mem := by
  obtain ⟨hx, hb, hml, hown, hts, hns, hK, hname⟩ := id X
  obtain ⟨-, -, -, -, -, ⟨-, -, gi, gc0, -⟩, gm, gN⟩ := id G
  unfold e_ivs at h
  cases hcal : e_cal P k i with
  | none => rw [hcal] at h; cases h
  | some f =>
    rw [hcal] at h
    dsimp only at h
    by_cases hf0 : f.1 = 0
    · rw [hf0] at h
      simp only [beq_self_eq_true, cond_true] at h
      unfold e_go at h
      split at h
      · next F hF =>
        have le0 := e_q_bli hF
        have le1 := e_run_le _ _ _ _ _ _ _ h
        dsimp only at le1
        have kk := hS k F.1 F.2.1 F.2.2.1 F.2.2.2 r mem' h (Nat.le_trans hmem le0.1) p e R s m args below meth c Q n0 z0 X hRf hRl hRc hRs hret
        unfold e_bli at hF
        cases hcnd : (Nat.ble 1 (e_rmo P k).1 && Nat.ble 26 (e_rmo P k).2.1) with
        | false => rw [hcnd] at hF; cases hF
        | true =>
          rw [hcnd] at hF
          simp only [cond_true] at hF
          simp only [Bool.and_eq_true, Nat.ble_eq] at hcnd
          rcases gm k i f hcal with ⟨-, ⟨hk, -⟩ | ⟨hk, -⟩ | ⟨hk, -⟩ | ⟨hk, w1, w2, w3, w4⟩ | ⟨hk, w1, w2, w3, w4⟩ | ⟨hk, w1, w2, w3, w4⟩⟩ | ⟨hne, -⟩
          · rw [hk] at hF; cases hF
          · rw [hk] at hF; cases hF
          · rw [hk] at hF; cases hF
          · rw [hk] at hF
            exact e_s_acp hA X hd w1 w2 w3 w4 (Nat.le_trans hcnd.1 hRf) (Nat.le_trans hcnd.2 hRl) hF kk
          · rw [hk] at hF
            exact e_s_min X hd w1 w2 w3 w4 (Nat.le_trans hcnd.1 hRf) (Nat.le_trans hcnd.2 hRl) (Nat.le_trans le0.1 (Nat.le_trans le1.1 hRc)) (Nat.le_trans le0.2 (Nat.le_trans le1.2 hRs)) hF kk
          · rw [hk] at hF
            exact e_s_max X hd w1 w2 w3 w4 (Nat.le_trans hcnd.1 hRf) (Nat.le_trans hcnd.2 hRl) (Nat.le_trans le0.1 (Nat.le_trans le1.1 hRc)) (Nat.le_trans le0.2 (Nat.le_trans le1.2 hRs)) hF kk
          · exact absurd hf0 hne
      · cases h
    have hb0 : (f.1 == 0) = false := by simpa using hf0
    rw [hb0] at h
    simp only [cond_false] at h
    cases hcnd : (Nat.ble f.2.1 st.length && (e_low (st.drop f.2.1) && (e_room P k f.1 (st.take f.2.1).reverse && f.2.2.1 == 99))) with
    | false => rw [hcnd] at h; cases h
    | true =>
      rw [hcnd] at h
      simp only [cond_true] at h
      unfold e_room at hcnd
      simp only [Bool.and_eq_true, beq_iff_eq, Nat.ble_eq, Bool.not_eq_true', beq_eq_false_iff_ne] at hcnd
      obtain ⟨hfl, hlow, ⟨hvs, hrf, hrl⟩, h99⟩ := hcnd
      have h0 := hf0
      unfold e_aft at h
      split at h
      · next y hy =>
        obtain ⟨r2, mem2⟩ := y
        have le0 := e_run_le _ _ _ _ _ _ _ hy
        have le1 := e_run_le _ _ _ _ _ _ _ h
        dsimp only at le0 le1 h
        have kk := hS k (pc + 3) lv _ mem2 r mem' h (Nat.le_trans hmem le0.1) p e R s m args below meth c Q n0 z0 X hRf hRl hRc hRs hret
        rcases gm k i f hcal with ⟨hz0, -⟩ | ⟨-, wcode, wini, whn, wpl, wpar, wlink, wkind⟩
        · exact absurd hz0 h0
        · rcases wkind with ⟨-, wst⟩ | ⟨w99, -⟩
          · have hM := e_met hS hy hmem wpl hvs
            intro H locs cells slots ls hP hz hlo hl hc hs
            have hn : ((st.take f.2.1).reverse.map (e_cv ad)).length = f.2.1 := by simp; omega
            have hsum : (((st.drop f.2.1).map (e_cv ad)).map fun v => v.category).sum ≤ 8 := by rw [e_catsum]; exact Nat.le_of_ble_eq_true hlow
            have hstack : st.map (e_cv ad) = ((st.take f.2.1).reverse.map (e_cv ad)).reverse ++ (st.drop f.2.1).map (e_cv ad) := by
              rw [← List.map_reverse, List.reverse_reverse, ← List.map_append, List.take_append_drop]
            have hroom := lv_room (m := m) (pc := pc) (ls := ls) (rest := st.map (e_cv ad)) hsum
            have hf : cells + (mem2.length - mem.length) ≤ R.cells ∧ slots + (e_sl mem2 - e_sl mem) ≤ R.slots := by
              obtain ⟨a1, a2⟩ := le0
              obtain ⟨b1, b2⟩ := le1
              constructor <;> omega
            have hpre := e_pre (P := P) (base := base) (vs := (st.take f.2.1).reverse) gN hns hK hname.2 hP hz
            have hRR : (e_rm P f.1 mem mem2).frames + 1 ≤ R.frames ∧ 8 + ((e_mth P f.1).2.2.1 + 11) + (e_rm P f.1 mem mem2).locals ≤ R.locals := ⟨Nat.le_trans hrf hRf, Nat.le_trans hrl hRl⟩
            have hcf : CallFix p m c (e_mth P k).2.1 (e_mth P k).2.2.1 s args Ts (e_mth P k).1.cls := ⟨hx, hb, hml, hown, hts⟩
            have hgd := e_good G wcode
            rcases wlink with ⟨-, wl⟩ | ⟨-, host, wl⟩
            · exact e_back le0 (va_runS hcf hM ⟨callB_of f.2.1 hts hgd rfl rfl rfl (hts _ wini) (hts _ wl) ⟨whn.1, whn.2, wpar⟩ hRR, hts _ wst⟩ hpre rfl hn hl.1 hstack hroom hd hf) hlo hl hc hs kk
            · exact e_back le0 (va_runSN hcf hM ⟨va_cnB f.2.1 hts hgd rfl rfl rfl (hns _ wl) (hts _ wini) ⟨whn.1, whn.2, wpar⟩ hRR, hts _ wst, trivial⟩ hpre rfl hn hl.1 hstack hroom hd hf) hlo hl hc hs kk
          · exact absurd h99 w99
      · cases h
end ECL
theorem e_sound {l : Launch} {P : e_Pg} {D : va_G} {cl : List vw_C} {Ts Ns : List Cond} {ad : Nat → Nat} {base : Nat} (G : e_GD P cl Ts Ns) (hA : e_AD ad (e_ro P) base) : ∀ n, e_S l P D cl Ts Ns ad base n
  | 0 => fun k pc lv st mem r mem' h => by cases h
  | n + 1 => fun k pc lv st mem r mem' h hmem p e R s m args below meth c Q n0 z0 X hRf hRl hRc hRs hret => by
    have hS := e_sound (l := l) (D := D) G hA n
    rw [e_run_succ] at h
    unfold e_body at h
    simp only [Bool.cond_eq_ite] at h
    split at h
    · next x hx =>
      obtain ⟨i, len⟩ := x
      split at h
      · next hlen =>
        have hd := G.1 k pc _ hx
        unfold e_one at h
        dsimp only at h hlen
        split at h
        · cases e_ln hlen rfl
          exact e_s_inv (sp := false) G hS hA X hd h hmem hRf hRl hRc hRs hret
        · cases e_ln hlen rfl
          exact e_s_inv (sp := true) G hS hA X hd h hmem hRf hRl hRc hRs hret
        · cases e_ln hlen rfl
          exact e_s_ivs G hS hA X hd h hmem hRf hRl hRc hRs hret
        · cases e_ln hlen rfl
          unfold e_rt at h
          split at h
          · next r' hr => cases h; exact hret pc _ lv st hd hr
          · cases h
        · cases e_ln hlen rfl
          unfold e_rt at h
          split at h
          · next r' hr => cases h; exact hret pc _ lv st hd hr
          · cases h
        · cases e_ln hlen rfl
          unfold e_rt at h
          split at h
          · next r' hr => cases h; exact hret pc _ lv st hd hr
          · cases h
        · cases e_ln hlen rfl
          unfold e_rt at h
          split at h
          · next r' hr => cases h; exact hret pc _ lv st hd hr
          · cases h
        · unfold e_go at h
          split at h
          · next F hF =>
            have le0 := e_step_le hF
            have le1 := e_run_le _ _ _ _ _ _ _ h
            dsimp only at le1
            have kk := hS k F.1 F.2.1 F.2.2.1 F.2.2.2 r mem' h (Nat.le_trans hmem le0.1) p e R s m args below meth c Q n0 z0 X hRf hRl hRc hRs hret
            exact e_step_sound G hA X hx hlen hF (Nat.le_trans le1.1 hRc) (Nat.le_trans le1.2 hRs) hmem kk
          · cases h
      · cases h
    · cases h
