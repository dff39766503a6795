/-! THE STEPS THAT TOUCH CELLS -/
section ESH
variable {p : Program} {l : Launch} {e : Env} {R : Room} {s : State} {m : MethodId} {args : Array Value} {below : List Frame} {meth : Method} {c : Code} {Q : State → Prop}
variable {P : e_Pg} {D : va_G} {cl : List vw_C} {Ts Ns : List Cond} {ad : Nat → Nat} {base n0 z0 k : Nat}
theorem e_wr_len0 {α : Type} : ∀ (l : List α) (i : Nat) (ys : List α), (e_wr l i ys).length = ys.length
  | [], _, _ => rfl
  | x :: l, i, ys => by
    unfold e_wr
    rw [e_wr_len0 l]
    simp
theorem e_isArr {s : State} {cell : Cell} {ty : FieldType} (j : Nat) (v : Value) (h : s.isArrayOf cell ty) : s.isArrayOf (cell.setSlot j v) ty := h
theorem e_slots_at {xs : List Int32} {j : Nat} {x : Int32} {cell : Cell} (h : cell.slots = (xs.map Value.int).toArray) (hj : xs[j]? = some x) : cell.slots[j]? = some (.int x) := by
  rw [h]
  simp [hj]
theorem e_slots_size {xs : List Int32} {cell : Cell} (h : cell.slots = (xs.map Value.int).toArray) : cell.slots.size = xs.length := by
  rw [h]
  simp
theorem e_slots_set {xs : List Int32} {cell : Cell} {j : Nat} (x : Int32) (h : cell.slots = (xs.map Value.int).toArray) : (cell.setSlot j (.int x)).slots = ((xs.set j x).map Value.int).toArray := by
  show cell.slots.setIfInBounds j (.int x) = _
  rw [h]
  apply Array.toList_inj.mp
  simp [List.map_set]
theorem e_s_alen (G : e_GD P cl Ts Ns) (X : e_X p s m args meth c P D cl Ts Ns ad k) {pc : Nat} {lv : List (Nat × Value)} {st : List Value} {mem : List e_C} {F : e_F} (hd : decode (e_mth P k).2.1 pc = .ok (.arraylength, 1)) (h : e_alen (pc + 1) lv st mem = some F)
    (kk : e_W p l e R s m args below meth c Q P D ad base n0 z0 k F.1 F.2.1 F.2.2.1 F.2.2.2) : e_W p l e R s m args below meth c Q P D ad base n0 z0 k pc lv st mem := by
  obtain ⟨hx, hb, -⟩ := X
  unfold e_alen at h
  split at h
  · next q r =>
    split at h
    · next a ha =>
      cases h
      intro H locs cells slots ls hP hz hlo hl hc hs
      obtain ⟨cell, h1, h2, h3, h4⟩ := hP.1 q _ ha
      exact W.alen hx hb h1 h2 (by rw [e_slots_size h4]) rfl rfl hd (kk H locs cells slots ls hP hz hlo hl hc hs)
    · cases h
  · cases h
theorem e_s_ald (X : e_X p s m args meth c P D cl Ts Ns ad k) {pc : Nat} {z : Bool} {lv : List (Nat × Value)} {st : List Value} {mem : List e_C} {F : e_F} (hd : decode (e_mth P k).2.1 pc = .ok (bif z then .baload else .iaload, 1)) (h : e_ald (pc + 1) lv st mem z = some F)
    (kk : e_W p l e R s m args below meth c Q P D ad base n0 z0 k F.1 F.2.1 F.2.2.1 F.2.2.2) : e_W p l e R s m args below meth c Q P D ad base n0 z0 k pc lv st mem := by
  obtain ⟨hx, hb, -⟩ := X
  unfold e_ald at h
  split at h
  · next j q r =>
    split at h
    · next a ha =>
      cases hcnd : (a.1 == z && !decide (j < 0)) with
      | false => rw [hcnd] at h; cases h
      | true =>
        rw [hcnd] at h
        simp only [Bool.and_eq_true, beq_iff_eq, Bool.not_eq_true', decide_eq_false_iff_not] at hcnd
        obtain ⟨ez, hj⟩ := hcnd
        simp only [cond_true] at h
        split at h
        · next x hxx =>
          cases h
          intro H locs cells slots ls hP hz hlo hl hc hs
          obtain ⟨cell, h1, h2, h3, h4⟩ := hP.1 q _ ha
          have hin : ¬ (j < 0 ∨ cell.slots.size ≤ j.toNatClampNeg) := by
            rintro (q | q)
            · exact hj q
            · rw [e_slots_size h4] at q
              have := (List.getElem?_eq_some_iff.mp hxx).1
              omega
          cases z with
          | false =>
            rw [ez] at h2
            exact W.iald hx hb h1 h2 h3 hin (e_slots_at h4 hxx) rfl rfl hd (kk H locs cells slots ls hP hz hlo hl hc hs)
          | true =>
            rw [ez] at h2
            exact W.zald hx hb h1 h2 h3 hin (e_slots_at h4 hxx) rfl rfl hd (kk H locs cells slots ls hP hz hlo hl hc hs)
        · cases h
    · cases h
  · cases h
theorem e_s_ast (hA : e_AD ad (e_ro P) base) (X : e_X p s m args meth c P D cl Ts Ns ad k) {pc : Nat} {z : Bool} {lv : List (Nat × Value)} {st : List Value} {mem : List e_C} {F : e_F} (hd : decode (e_mth P k).2.1 pc = .ok (bif z then .bastore else .iastore, 1)) (h : e_ast (pc + 1) lv st mem (e_ro P) z = some F)
    (kk : e_W p l e R s m args below meth c Q P D ad base n0 z0 k F.1 F.2.1 F.2.2.1 F.2.2.2) : e_W p l e R s m args below meth c Q P D ad base n0 z0 k pc lv st mem := by
  obtain ⟨hx, hb, -⟩ := X
  unfold e_ast at h
  split at h
  · next x j q r =>
    split at h
    · next a ha =>
      cases hcnd : (a.1 == z && (!decide (j < 0) && (Nat.blt j.toNatClampNeg a.2.length && (Nat.ble (e_ro P) q && (!z || e_fit .boolean (.int x)))))) with
      | false => rw [hcnd] at h; cases h
      | true =>
        rw [hcnd] at h
        simp only [Bool.and_eq_true, beq_iff_eq, Bool.not_eq_true', decide_eq_false_iff_not, Nat.blt_eq, Nat.ble_eq, Bool.or_eq_true] at hcnd
        obtain ⟨ez, hj, hjl, hro, hbz⟩ := hcnd
        cases h
        intro H locs cells slots ls hP hz hlo hl hc hs
        obtain ⟨cell, h1, h2, h3, h4⟩ := hP.1 q _ ha
        have hin : ¬ (j < 0 ∨ cell.slots.size ≤ j.toNatClampNeg) := by
          rintro (q | q)
          · exact hj q
          · rw [e_slots_size h4] at q
            omega
        have hbq : base ≤ ad q := by rw [hA.1 q hro]; omega
        have go : ∀ H' : Heap, H'[ad q]? = some (cell.setSlot j.toNatClampNeg (.int x)) → H'.size = H.size → (∀ y, y ≠ ad q → H'[y]? = H[y]?) → W p l e R s m args below meth c H' (locs ++ [⟨ad q, j.toNatClampNeg⟩]) cells slots Q (F0 m (pc + 1) ls (r.map (e_cv ad))) := by
          intro H' g1 g2 g3
          refine kk H' _ cells slots ls (hP.set hA ha ?_ g3 hro) (by rw [g2, List.length_set]; exact hz) ?_ hl (by rw [List.length_set]; exact hc) (by rw [e_sl_set ha (by simp [e_sz])]; exact hs)
          · exact ⟨_, g1, h2, h3, e_slots_set x h4⟩
          · intro y hy
            rcases List.mem_append.mp hy with hy | hy
            · exact hlo y hy
            · rw [List.mem_singleton.mp hy]; exact hbq
        cases z with
        | false =>
          rw [ez] at h2
          exact W.iast hx hb h1 h2 h3 hin rfl rfl hd go
        | true =>
          rw [ez] at h2
          have hfit : e_fit .boolean (.int x) = true := by
            rcases hbz with hb0 | hb0
            · cases hb0
            · exact hb0
          refine W.zast hx hb h1 h2 h3 hin rfl rfl hd ?_
          rw [(e_fit_narrow hfit).1]
          exact go
    · cases h
  · cases h
theorem e_s_getf (G : e_GD P cl Ts Ns) (X : e_X p s m args meth c P D cl Ts Ns ad k) {pc i : Nat} {lv : List (Nat × Value)} {st : List Value} {mem : List e_C} {F : e_F} (hd : decode (e_mth P k).2.1 pc = .ok (.getfield i, 3)) (h : e_getf (pc + 3) lv st mem (e_fld P k i) = some F)
    (kk : e_W p l e R s m args below meth c Q P D ad base n0 z0 k F.1 F.2.1 F.2.2.1 F.2.2.2) : e_W p l e R s m args below meth c Q P D ad base n0 z0 k pc lv st mem := by
  obtain ⟨hx, hb, -, hown, hts, -, hK, -⟩ := X
  obtain ⟨-, gf, gk, -⟩ := G
  cases hfl : e_fld P k i with
  | none => rw [hfl] at h; cases h
  | some f =>
    rw [hfl] at h
    unfold e_getf at h
    split at h
    · next f' q r hff =>
      cases hff
      split at h
      · next o ho =>
        cases hcnd : (o.1 == f.1) with
        | false => rw [hcnd] at h; cases h
        | true =>
          rw [hcnd] at h
          simp only [cond_true] at h
          have eo : o.1 = f.1 := by simpa using hcnd
          split at h
          · next v hv =>
            cases h
            intro H locs cells slots ls hP hz hlo hl hc hs
            obtain ⟨cell, h1, h2, h3, h4⟩ := (hP.1 q _ ho).obj (fun e => by rw [e] at hv; simp at hv)
            obtain ⟨C, T, N, hcl, hN, hlink, -⟩ := gf k i f hfl
            obtain ⟨hin, -⟩ := gk f.1 C T N hcl
            obtain ⟨hS, hfc, kC, hkC, hkind⟩ := hK.1 f.1 _ hcl
            obtain ⟨cf, kf, fi, fd, hi, hsl⟩ := hS f.2.1 hN
            refine W.getf hx hb hown (hts _ hlink) hi (u_facts hfc hkC (u_lays hts hin hN) hi).1 h1 (by rw [h3]; exact fun h => by cases h) (v := e_cv ad v) ?_ rfl rfl hd (kk H locs cells slots ls hP hz hlo hl hc hs)
            have := (h4 f.2.1 v).1 hv
            rw [eo] at this
            rw [hsl]
            exact this
          · cases h
      · cases h
    · cases h
theorem e_s_putf (G : e_GD P cl Ts Ns) (hA : e_AD ad (e_ro P) base) (X : e_X p s m args meth c P D cl Ts Ns ad k) {pc i : Nat} {lv : List (Nat × Value)} {st : List Value} {mem : List e_C} {F : e_F} (hd : decode (e_mth P k).2.1 pc = .ok (.putfield i, 3)) (h : e_putf (pc + 3) lv st mem (e_ro P) (e_fld P k i) = some F)
    (kk : e_W p l e R s m args below meth c Q P D ad base n0 z0 k F.1 F.2.1 F.2.2.1 F.2.2.2) : e_W p l e R s m args below meth c Q P D ad base n0 z0 k pc lv st mem := by
  obtain ⟨hx, hb, -, hown, hts, -, hK, hname⟩ := X
  obtain ⟨-, gf, gk, -⟩ := G
  cases hfl : e_fld P k i with
  | none => rw [hfl] at h; cases h
  | some f =>
    rw [hfl] at h
    unfold e_putf at h
    split at h
    · next f' v q r hff =>
      cases hff
      split at h
      · next o ho =>
        cases hcnd : (o.1 == f.1 && (Nat.blt f.2.1 o.2.length && (e_fit f.2.2.1 v && (!f.2.2.2 && Nat.ble (e_ro P) q)))) with
        | false => rw [hcnd] at h; cases h
        | true =>
          rw [hcnd] at h
          simp only [Bool.and_eq_true, beq_iff_eq, Bool.not_eq_true', Nat.blt_eq, Nat.ble_eq] at hcnd
          obtain ⟨eo, hlen, hfit, hfin, hro⟩ := hcnd
          cases h
          intro H locs cells slots ls hP hz hlo hl hc hs
          obtain ⟨cell, h1, h2, h3, h4⟩ := (hP.1 q _ ho).obj (fun e => by rw [e] at hlen; simp at hlen)
          obtain ⟨C, T, N, hcl, hN, hlink, hty, hmay⟩ := gf k i f hfl
          obtain ⟨hin, ⟨ty0, hty0⟩, hnm⟩ := gk f.1 C T N hcl
          have hap := va_apart (own := (e_mth P k).1.cls) hts hin ty0 hty0 hnm hK hcl
          obtain ⟨hS, hfc, kC, hkC, hkind⟩ := hK.1 f.1 _ hcl
          obtain ⟨cf, kf, fi, fd, hi, hsl⟩ := hS f.2.1 hN
          have hst := (u_facts hfc hkC (u_lays hts hin hN) hi).1
          obtain ⟨hnar, hfits⟩ := e_fit_narrow (e_fit_cv ad hfit)
          have hbq : base ≤ ad q := by rw [hA.1 q hro]; omega
          have hslot : fd.slot < cell.slots.size := by
            have hg := (h4 f.2.1 o.2[f.2.1]).1 (List.getElem?_eq_getElem hlen)
            rw [eo] at hg
            rw [hsl]
            exact k2_hasslot hg
          have go : ∀ H' : Heap, H'[ad q]? = some (cell.setSlot fd.slot (e_cv ad v)) → H'.size = H.size → (∀ y, y ≠ ad q → H'[y]? = H[y]?) → W p l e R s m args below meth c H' (locs ++ [⟨ad q, fd.slot⟩]) cells slots Q (F0 m (pc + 3) ls (r.map (e_cv ad))) := by
            intro H' g1 g2 g3
            refine kk H' _ cells slots ls (hP.set hA ho ?_ g3 hro) (by rw [g2, List.length_set]; exact hz) ?_ hl (by rw [List.length_set]; exact hc) (by rw [e_sl_set ho (by simp [e_sz])]; exact hs)
            · refine Or.inr ⟨_, g1, h2, h3, fun j w => ⟨fun hw => ?_, fun i hi1 hj1 hij => ?_⟩⟩
              · by_cases hjf : j = f.2.1
                · subst hjf
                  rw [List.getElem?_set_self hlen] at hw
                  cases hw
                  rw [eo, ← hsl]
                  show (cell.slots.setIfInBounds fd.slot (e_cv ad v))[fd.slot]? = _
                  simp [hslot]
                · rw [List.getElem?_set_ne (Ne.symm hjf)] at hw
                  have hjl : j < o.2.length := (List.getElem?_eq_some_iff.mp hw).1
                  have hne : ¬ fd.slot = D.2 o.1 j := by
                    rw [hsl, ← eo]
                    exact fun q => hjf ((h4 j w).2 f.2.1 hlen hjl q).symm
                  show (cell.slots.setIfInBounds fd.slot (e_cv ad v))[D.2 o.1 j]? = _
                  rw [Array.getElem?_setIfInBounds_ne hne]
                  exact (h4 j w).1 hw
              · exact (h4 j w).2 i (by simpa using hi1) (by simpa using hj1) hij
            · intro y hy
              rcases List.mem_append.mp hy with hy | hy
              · exact hlo y hy
              · rw [List.mem_singleton.mp hy]; exact hbq
          have hlay := hts _ (hin _ (u_in_lay hN))
          rcases hmay hfin with hm | ⟨hm, hin2, hdecl⟩
          · unfold u_lay at hlay
            rw [if_neg (by rw [hm]; decide)] at hlay
            have h6 := u_store hfc hkC hkind hlay hi hty hnar hfits
            exact W.putK hx hb (f := fd) ⟨hown, hts _ hlink, ⟨cf, kf, fi, hi⟩, hst⟩ (by rw [h2, eo]; exact h6) h1 h3 hslot rfl rfl hd go
          · have h7 := u_fits hfc hkC hkind (u_lays hts hin hN) hi hty hnar hfits
            refine W.putFinK hx hb hown (hts _ hlink) hi hst ?_ (hname.1 hin2) (by rw [h2, eo]; exact h7) h1 h3 hslot rfl rfl hd go
            unfold u_lay at hlay
            rw [if_pos hm] at hlay
            obtain ⟨_, _, c', _, _, _, -, -, hf', -, -, -, hown2, -⟩ := Cond.laysFinal_spec hlay
            have e1 : c' = cf := by have := hi.symm.trans hf'; simp at this; exact this.1.symm
            rw [hdecl] at hown2
            rw [← e1]; exact Option.some.inj (hown.symm.trans hown2)
      · cases h
    · cases h
theorem e_dflt (ad : Nat → Nat) (ty : FieldType) : e_cv ad (defaultValue ty) = defaultValue ty := by cases ty <;> rfl
theorem e_s_newo (G : e_GD P cl Ts Ns) (hA : e_AD ad (e_ro P) base) (X : e_X p s m args meth c P D cl Ts Ns ad k) {pc i : Nat} {lv : List (Nat × Value)} {st : List Value} {mem : List e_C} {F : e_F} (hd : decode (e_mth P k).2.1 pc = .ok (.new i, 3)) (h : e_newo (pc + 3) lv st mem (e_new P k i) = some F)
    (hRc : F.2.2.2.length ≤ R.cells + n0) (hRs : e_sl F.2.2.2 ≤ R.slots + z0) (hmem : e_ro P ≤ mem.length)
    (kk : e_W p l e R s m args below meth c Q P D ad base n0 z0 k F.1 F.2.1 F.2.2.1 F.2.2.2) : e_W p l e R s m args below meth c Q P D ad base n0 z0 k pc lv st mem := by
  obtain ⟨hx, hb, -, hown, hts, -, hK, hname⟩ := X
  obtain ⟨-, -, gk, gn, -⟩ := G
  cases hfl : e_new P k i with
  | none => rw [hfl] at h; cases h
  | some o =>
    rw [hfl] at h
    cases h
    intro H locs cells slots ls hP hz hlo hl hc hs
    obtain ⟨C, T, N, hcl, hN, hlink, hinst, hini, hdef⟩ := gn k i o hfl
    obtain ⟨hin, ⟨ty0, hty0⟩, hnm⟩ := gk o.1 C T N hcl
    have hap := va_apart (own := (e_mth P k).1.cls) hts hin ty0 hty0 hnm hK hcl
    have hKn := hK.1 o.1 _ hcl
    have hsz : ad mem.length = H.size := by rw [hA.1 _ hmem]; omega
    have e1 : e_sl (mem ++ [.inr o]) = e_sl mem + N := by rw [e_sl_push]; simp [e_sz, hN]
    have e2 : (mem ++ [(.inr o : e_C)]).length = mem.length + 1 := by simp
    dsimp only at hRc hRs
    rw [e2] at hRc
    rw [e1] at hRs
    refine W.newcK hx hb hown (hts _ hlink) (hts _ hinst) (hts _ hini) rfl hd (by omega) (by omega) hKn.2.1 rfl fun H1 kC hkC g1 g2 g3 => ?_
    have hborn := u_born ty0 hts hin hKn hkC g1 hty0
    obtain ⟨cell, b1, b2, b3, b4⟩ := hborn
    refine W.eq ?_ (kk H1 locs (cells + 1) (slots + N) ls (hP.push hsz (Or.inr ⟨cell, b1, b2, b3, fun j v => ⟨fun hv => ?_, fun a ha hj hij => ?_⟩⟩) g3) (by rw [g2, e2]; omega) hlo hl (by rw [e2]; omega) (by rw [e1]; omega))
    · show F0 m (pc + 3) ls (.ref H.size :: _) = F0 m (pc + 3) ls (.ref (ad mem.length) :: _)
      rw [hsz]
    · have hjl : j < N := by rw [← hN]; exact (List.getElem?_eq_some_iff.mp hv).1
      obtain ⟨ty, t1, t2⟩ := hdef j v hv
      rw [b4 j hjl]
      cases (hty0 j hjl).symm.trans t1
      rw [← t2, e_dflt]
    · rw [hN] at ha hj
      by_cases he : a = j
      · exact he
      · exact absurd hij (hap a j ha hj he)
theorem e_s_newa (G : e_GD P cl Ts Ns) (hA : e_AD ad (e_ro P) base) (X : e_X p s m args meth c P D cl Ts Ns ad k) {pc : Nat} {z : Bool} {lv : List (Nat × Value)} {st : List Value} {mem : List e_C} {F : e_F} (hd : decode (e_mth P k).2.1 pc = .ok (.newarray (bif z then .boolean else .int), 2)) (h : e_newa (pc + 2) lv st mem z = some F)
    (hRc : F.2.2.2.length ≤ R.cells + n0) (hRs : e_sl F.2.2.2 ≤ R.slots + z0) (hmem : e_ro P ≤ mem.length)
    (kk : e_W p l e R s m args below meth c Q P D ad base n0 z0 k F.1 F.2.1 F.2.2.1 F.2.2.2) : e_W p l e R s m args below meth c Q P D ad base n0 z0 k pc lv st mem := by
  obtain ⟨hx, hb, -, hown, hts, -, hK, hname⟩ := X
  obtain ⟨-, -, -, -, -, ⟨ga1, ga2, -⟩, -⟩ := G
  unfold e_newa at h
  split at h
  · next n r =>
    cases hcnd : (!decide (n < 0) && decide (n ≤ 65535)) with
    | false => rw [hcnd] at h; cases h
    | true =>
      rw [hcnd] at h
      simp only [Bool.and_eq_true, Bool.not_eq_true', decide_eq_false_iff_not, decide_eq_true_eq] at hcnd
      obtain ⟨hn0, hn1⟩ := hcnd
      cases h
      intro H locs cells slots ls hP hz hlo hl hc hs
      have hsz : ad mem.length = H.size := by rw [hA.1 _ hmem]; omega
      have e1 : e_sl (mem ++ [.inl (z, List.replicate n.toNatClampNeg 0)]) = e_sl mem + n.toNatClampNeg := by rw [e_sl_push]; simp [e_sz]
      have e2 : (mem ++ [(.inl (z, List.replicate n.toNatClampNeg 0) : e_C)]).length = mem.length + 1 := by simp
      have hnn : n.toNatClampNeg ≤ 65535 := by
        obtain ⟨j, hj, rfl⟩ := nI_of hn0
        rw [nI_clamp hj]
        exact (nI_leI hj (by omega)).mp (show nI j ≤ nI 65535 from hn1)
      dsimp only at hRc hRs
      rw [e2] at hRc
      rw [e1] at hRs
      have go : ∀ (ty : FieldType) (H1 : Heap) (cA : ClassId), defaultValue ty = .int 0 → (bif z then FieldType.boolean else FieldType.int) = ty → H1[H.size]? = some (arrV cA n.toNatClampNeg (fun _ => defaultValue ty)) → H1.size = H.size + 1 → (∀ q, q < H.size → H1[q]? = H[q]?) → ArrOfT s cA ty → W p l e R s m args below meth c H1 locs (cells + 1) (slots + n.toNatClampNeg) Q (F0 m (pc + 2) ls (.ref H.size :: r.map (e_cv ad))) := by
        intro ty H1 cA hdv hzt g1 g2 g3 hAr
        refine W.eq ?_ (kk H1 locs (cells + 1) (slots + n.toNatClampNeg) ls (hP.push hsz ⟨_, g1, ?_, ?_, ?_⟩ g3) (by rw [g2, e2]; omega) hlo hl (by rw [e2]; omega) (by rw [e1]; omega))
        · show F0 m (pc + 2) ls (.ref H.size :: _) = F0 m (pc + 2) ls (.ref (ad mem.length) :: _)
          rw [hsz]
        · dsimp only
          rw [hzt]
          exact hAr _ _
        · exact fun h => by cases h
        · rw [hdv]
          apply Array.toList_inj.mp
          simp only [arrV, Array.toList_ofFn, List.map_replicate]
          apply List.ext_getElem
          · simp
          · intro i h1 h2
            simp
      cases z with
      | false => exact va_newaK (atype := .int) hx hb (hts _ ga1) rfl hd rfl hn0 rfl (by show _ * 4 ≤ _; omega) (by omega) (by omega) rfl fun H1 cA g1 g2 g3 g4 _ => go _ H1 cA rfl rfl g1 g2 g3 g4
      | true => exact va_newaK (atype := .boolean) hx hb (hts _ ga2) rfl hd rfl hn0 rfl (by show _ * 1 ≤ _; omega) (by omega) (by omega) rfl fun H1 cA g1 g2 g3 g4 _ => go _ H1 cA rfl rfl g1 g2 g3 g4
  · cases h
theorem e_s_tsw (X : e_X p s m args meth c P D cl Ts Ns ad k) {pc len : Nat} {d lo hi : Int} {offs : Array Int} {lv : List (Nat × Value)} {st : List Value} {mem : List e_C} {F : e_F} (hd : decode (e_mth P k).2.1 pc = .ok (.tableswitch d lo hi offs, len)) (h : e_tsw lv st mem pc d lo hi offs = some F)
    (kk : e_W p l e R s m args below meth c Q P D ad base n0 z0 k F.1 F.2.1 F.2.2.1 F.2.2.2) : e_W p l e R s m args below meth c Q P D ad base n0 z0 k pc lv st mem := by
  obtain ⟨hx, hb, -⟩ := X
  unfold e_tsw at h
  split at h
  · next x r =>
    cases hcnd : (decide (x.toInt < lo) || decide (hi < x.toInt)) with
    | true =>
      rw [hcnd] at h
      simp only [Bool.or_eq_true, decide_eq_true_eq] at hcnd
      obtain ⟨t, e1, rfl⟩ := e_s_jmp h
      intro H locs cells slots ls hP hz hlo hl hc hs
      exact lv_tableOut hx hb hd hcnd e1 (kk H locs cells slots ls hP hz hlo hl hc hs)
    | false =>
      rw [hcnd] at h
      simp only [Bool.or_eq_false_iff, decide_eq_false_iff_not] at hcnd
      simp only [cond_false] at h
      split at h
      · next o ho =>
        obtain ⟨t, e1, rfl⟩ := e_s_jmp h
        intro H locs cells slots ls hP hz hlo hl hc hs
        exact lv_tableIn hx hb hd hcnd.1 hcnd.2 (by rw [← Array.getElem?_toList]; exact ho) e1 (kk H locs cells slots ls hP hz hlo hl hc hs)
      · cases h
  · cases h
theorem e_slots_wr : ∀ (l : List Int32) (at_ i : Nat) (cell : Cell) (ys : List Int32), cell.slots = (ys.map Value.int).toArray → (cell.storePairs at_ ((l.map Value.int).zipIdx i)).slots = ((e_wr l (at_ + i) ys).map Value.int).toArray ∧ (cell.storePairs at_ ((l.map Value.int).zipIdx i)).cls = cell.cls ∧ (cell.storePairs at_ ((l.map Value.int).zipIdx i)).vm = cell.vm
  | [], at_, i, ce, ys, h => ⟨h, rfl, rfl⟩
  | x :: l, at_, i, ce, ys, h => by
    have ih := e_slots_wr l at_ (i + 1) (ce.setSlot (at_ + i) (.int x)) (ys.set (at_ + i) x) (e_slots_set x h)
    rw [List.map_cons, List.zipIdx_cons]
    exact ih
theorem e_stretch {xs : List Int32} {cell : Cell} {sp n : Nat} (h : cell.slots = (xs.map Value.int).toArray) (hl : sp + n ≤ xs.length) : cell.stretch sp n = ((xs.drop sp).take n).map Value.int := by
  unfold Cell.stretch
  apply List.ext_getElem
  · simp; omega
  · intro i h1 h2
    have hi : i < n := by simpa using h1
    simp only [List.getElem_map, List.getElem_range, List.getElem_take, List.getElem_drop]
    rw [Array.getD_eq_getD_getElem?, h]
    simp [show sp + i < xs.length by omega]
theorem e_s_acp (hA : e_AD ad (e_ro P) base) (X : e_X p s m args meth c P D cl Ts Ns ad k) {pc i : Nat} {lv : List (Nat × Value)} {st : List Value} {mem : List e_C} {F : e_F} (hd : decode (e_mth P k).2.1 pc = .ok (.invokestatic i, 3)) (w1 : Cond.methodLink (e_mth P k).1.cls i arraycopyName ∈ Ts) (w2 : Cond.native arraycopyName ∈ Ts) (w3 : Cond.static arraycopyName ∈ Ts) (w4 : Cond.initialized "java/lang/System" ∈ Ts)
    (hf1 : 1 ≤ R.frames) (hl26 : 26 ≤ R.locals) (h : e_acp (pc + 3) lv st mem (e_ro P) = some F)
    (kk : e_W p l e R s m args below meth c Q P D ad base n0 z0 k F.1 F.2.1 F.2.2.1 F.2.2.2) : e_W p l e R s m args below meth c Q P D ad base n0 z0 k pc lv st mem := by
  obtain ⟨hx, hb, hml, hown, hts, -⟩ := X
  unfold e_acp at h
  split at h
  · next n dp q1 sp q0 r =>
    split at h
    · next a b ha hbb =>
      cases hcnd : (!a.1 && (!b.1 && (!decide (sp < 0) && (!decide (dp < 0) && (!decide (n < 0) && (Nat.ble (sp.toNatClampNeg + n.toNatClampNeg) a.2.length && (Nat.ble (dp.toNatClampNeg + n.toNatClampNeg) b.2.length && (Nat.ble (e_ro P) q1 && e_low r)))))))) with
      | false => rw [hcnd] at h; cases h
      | true =>
        rw [hcnd] at h
        simp only [Bool.and_eq_true, Bool.not_eq_true', decide_eq_false_iff_not, Nat.ble_eq] at hcnd
        obtain ⟨za, zb, h1, h2, h3, h4, h5, hro, hlow⟩ := hcnd
        cases h
        intro H locs cells slots ls hP hz hlo hl hc hs
        obtain ⟨cs, s1, s2, s3, s4⟩ := hP.1 q0 _ ha
        obtain ⟨cd, d1, d2, d3, d4⟩ := hP.1 q1 _ hbb
        rw [za] at s2
        rw [zb] at d2
        have nn : ∀ z : Int32, ¬ z < 0 → z.toInt = (z.toNatClampNeg : Int) := by
          intro z hz
          have hz0 : (0 : Int) ≤ z.toInt := by
            have := Int32.not_lt.mp hz
            simpa using Int32.le_iff_toInt_le.mp this
          show z.toInt = ((z.toInt.toNat : Nat) : Int)
          omega
        have hbq : base ≤ ad q1 := by rw [hA.1 q1 hro]; omega
        have hsum : ((r.map (e_cv ad)).map fun v => v.category).sum ≤ 8 := by
          rw [List.map_map, show ((fun v : Value => v.category) ∘ e_cv ad) = (fun v => v.category) from funext fun v => e_cv_cat ad v]
          exact Nat.le_of_ble_eq_true hlow
        obtain ⟨sb, k0, hk0, cm0, hkk0⟩ := s2
        obtain ⟨db, k1, hk1, cm1, hkk1⟩ := d2
        intro T hT X
        obtain ⟨vm', X', step⟩ := X.arraycopy hx hown (hts _ w1) (hts _ w2) (hts _ w3) (hts _ w4) (src := ad q0) (dst := ad q1) (cs := cs) (cd := cd) (srcPos := sp) (destPos := dp) (n := n) (by rw [hT]; exact s1) (by rw [hT]; exact d1)
          sb db s3 d3 hk0 hk1 hkk0 hkk1 (by decide) h1 h2 h3
          (by rw [nn sp h1, nn n h3, e_slots_size s4]; omega)
          (by rw [nn dp h2, nn n h3, e_slots_size d4]; omega)
          (fun vm₁ _ j hj => by
            have e : cs.slots.getD (sp.toNatClampNeg + j) .null = .int a.2[sp.toNatClampNeg + j] := by
              rw [Array.getD_eq_getD_getElem?, e_slots_at s4 (List.getElem?_eq_getElem (by omega))]
              rfl
            rw [e]
            exact ⟨rfl, trivial⟩)
          (g := F0 m pc ls (.int n :: .int dp :: .ref (ad q1) :: .int sp :: .ref (ad q0) :: r.map (e_cv ad))) rfl (by rw [hml]; exact hl.1) (rest := r.map (e_cv ad)) rfl (by rw [hb]; exact hd) hf1 (by show 2 * 0 + _ + (7 + 11) ≤ _; omega)
        have hlt : ad q1 < H.size := (Array.getElem?_eq_some_iff.mp d1).1
        have hcp : copied cs cd sp dp n = cd.storePairs dp.toNatClampNeg ((((a.2.drop sp.toNatClampNeg).take n.toNatClampNeg).map Value.int).zipIdx 0) := by
          show cd.storeRun _ (cs.stretch _ _) = _
          rw [e_stretch s4 h4]
          rfl
        obtain ⟨f1, f2, f3⟩ := e_slots_wr ((a.2.drop sp.toNatClampNeg).take n.toNatClampNeg) dp.toNatClampNeg 0 cd b.2 d4
        rw [← hcp, Nat.add_zero] at f1
        rw [← hcp] at f2 f3
        have hheap : ((T.setVm vm').setCell (ad q1) (copied cs cd sp dp n)).heap = H.setIfInBounds (ad q1) (copied cs cd sp dp n) := by rw [← hT]; rfl
        obtain ⟨t, a1, b1⟩ := kk (H.setIfInBounds (ad q1) (copied cs cd sp dp n)) _ cells slots ls (hP.set hA hbb ⟨_, by simp [Array.getElem?_setIfInBounds, hlt], ⟨by rw [f3]; exact db, k1, by rw [f2]; exact hk1, cm1, by rw [zb]; exact hkk1⟩, by rw [f3]; exact d3, f1⟩ (fun y hy => by simp [Array.getElem?_setIfInBounds, Ne.symm hy]) hro) (by simp only [Array.size_setIfInBounds, List.length_set]; exact hz) (fun y hy => by
            rcases List.mem_append.mp hy with hy | hy
            · exact hlo y hy
            · obtain ⟨z, -, hz⟩ := List.mem_map.mp hy
              rw [← hz]
              exact hbq) hl (by rw [List.length_set]; exact hc) (by rw [e_sl_set hbb (by simp [e_sz, e_wr_len0])]; exact hs) _ hheap X'
        exact ⟨t, step t a1, b1⟩
    · cases h
  · cases h
theorem e_s_min (X : e_X p s m args meth c P D cl Ts Ns ad k) {pc i : Nat} {lv : List (Nat × Value)} {st : List Value} {mem : List e_C} {F : e_F} (hd : decode (e_mth P k).2.1 pc = .ok (.invokestatic i, 3)) (w1 : Cond.methodLink (e_mth P k).1.cls i Lib.Math.min.name ∈ Ts) (w2 : Cond.static Lib.Math.min.name ∈ Ts) (w3 : Cond.initialized "java/lang/Math" ∈ Ts) (w4 : Cond.code Lib.Math.min.name Lib.Math.min.code 2 (some .int) ∈ Ts)
    (hf1 : 1 ≤ R.frames) (hl26 : 26 ≤ R.locals) (hRc : mem.length ≤ R.cells + n0) (hRs : e_sl mem ≤ R.slots + z0) (h : e_min (pc + 3) lv st mem = some F)
    (kk : e_W p l e R s m args below meth c Q P D ad base n0 z0 k F.1 F.2.1 F.2.2.1 F.2.2.2) : e_W p l e R s m args below meth c Q P D ad base n0 z0 k pc lv st mem := by
  obtain ⟨hx, hb, hml, hown, hts, -⟩ := X
  unfold e_min at h
  split at h
  · next y x r =>
    cases hlow : e_low r with
    | false => rw [hlow] at h; cases h
    | true =>
      rw [hlow] at h
      cases h
      intro H locs cells slots ls hP hz hlo hl hc hs
      have hsum : ((r.map (e_cv ad)).map fun v => v.category).sum ≤ 8 := by
        rw [List.map_map, show ((fun v : Value => v.category) ∘ e_cv ad) = (fun v => v.category) from funext fun v => e_cv_cat ad v]
        exact Nat.le_of_ble_eq_true hlow
      exact va_mmin hx hb (by rw [hml]; exact hl.1.symm) hown (hts _ w1) (hts _ w2) (hts _ w3) (hts _ w4) hf1 (by omega) (by omega) (by omega) hd (kk H locs cells slots ls hP hz hlo hl hc hs)
  · cases h
theorem e_s_max (X : e_X p s m args meth c P D cl Ts Ns ad k) {pc i : Nat} {lv : List (Nat × Value)} {st : List Value} {mem : List e_C} {F : e_F} (hd : decode (e_mth P k).2.1 pc = .ok (.invokestatic i, 3)) (w1 : Cond.methodLink (e_mth P k).1.cls i Lib.Math.max.name ∈ Ts) (w2 : Cond.static Lib.Math.max.name ∈ Ts) (w3 : Cond.initialized "java/lang/Math" ∈ Ts) (w4 : Cond.code Lib.Math.max.name Lib.Math.max.code 2 (some .int) ∈ Ts)
    (hf1 : 1 ≤ R.frames) (hl26 : 26 ≤ R.locals) (hRc : mem.length ≤ R.cells + n0) (hRs : e_sl mem ≤ R.slots + z0) (h : e_max (pc + 3) lv st mem = some F)
    (kk : e_W p l e R s m args below meth c Q P D ad base n0 z0 k F.1 F.2.1 F.2.2.1 F.2.2.2) : e_W p l e R s m args below meth c Q P D ad base n0 z0 k pc lv st mem := by
  obtain ⟨hx, hb, hml, hown, hts, -⟩ := X
  unfold e_max at h
  split at h
  · next y x r =>
    cases hlow : e_low r with
    | false => rw [hlow] at h; cases h
    | true =>
      rw [hlow] at h
      cases h
      intro H locs cells slots ls hP hz hlo hl hc hs
      have hsum : ((r.map (e_cv ad)).map fun v => v.category).sum ≤ 8 := by
        rw [List.map_map, show ((fun v : Value => v.category) ∘ e_cv ad) = (fun v => v.category) from funext fun v => e_cv_cat ad v]
        exact Nat.le_of_ble_eq_true hlow
      exact va_mmax hx hb (by rw [hml]; exact hl.1.symm) hown (hts _ w1) (hts _ w2) (hts _ w3) (hts _ w4) hf1 (by omega) (by omega) (by omega) hd (kk H locs cells slots ls hP hz hlo hl hc hs)
  · cases h
end ESH
