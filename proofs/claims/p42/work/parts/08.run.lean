/-! CALLS, AND THE WHOLE RUN -/
theorem e_go_le {P : e_Pg} {n k : Nat} {x : Option e_F} {mem : List e_C} {y : Option Value × List e_C} (ih : ∀ k pc lv st mem y, e_run P n k pc lv st mem = some y → e_le mem y.2) (hx : ∀ F, x = some F → e_le mem F.2.2.2) (h : e_go (e_run P n) k x = some y) : e_le mem y.2 := by
  unfold e_go at h
  split at h
  · next F => exact (hx F rfl).tr (ih _ _ _ _ _ _ h)
  · cases h
theorem e_aft_le {P : e_Pg} {n k pc : Nat} {lv : List (Nat × Value)} {rest : List Value} {x : Option (Option Value × List e_C)} {mem : List e_C} {y : Option Value × List e_C} (ih : ∀ k pc lv st mem y, e_run P n k pc lv st mem = some y → e_le mem y.2) (hx : ∀ F, x = some F → e_le mem F.2) (h : e_aft (e_run P n) k pc lv rest x = some y) : e_le mem y.2 := by
  unfold e_aft at h
  split at h
  · next F => exact (hx F rfl).tr (ih _ _ _ _ _ _ h)
  · cases h
theorem e_sgo_le {P : e_Pg} {n k pc : Nat} {lv : List (Nat × Value)} {st : List Value} {mem : List e_C} {sp : Bool} {cd : Nat} {y : Option Value × List e_C} (ih : ∀ k pc lv st mem y, e_run P n k pc lv st mem = some y → e_le mem y.2) (h : e_sgo P (e_run P n) k pc lv st mem sp cd = some y) : e_le mem y.2 := by
  unfold e_sgo at h
  cases sp with
  | true => cases h
  | false =>
    simp only [cond_false] at h
    split at h
    · exact ih _ _ _ _ _ _ h
    · cases h
theorem e_inv_le {P : e_Pg} {n k pc : Nat} {lv : List (Nat × Value)} {st : List Value} {mem : List e_C} {sp : Bool} {i : Nat} {y : Option Value × List e_C} (ih : ∀ k pc lv st mem y, e_run P n k pc lv st mem = some y → e_le mem y.2) (h : e_inv P (e_run P n) k pc lv st mem sp i = some y) : e_le mem y.2 := by
  unfold e_inv at h
  simp only [Bool.cond_eq_ite] at h
  split at h
  · cases h
  · split at h
    · split at h
      · split at h
        · exact ih _ _ _ _ _ _ h
        · exact e_sgo_le ih h
      · split at h
        · split at h
          · exact e_aft_le ih (fun F hF => ih _ _ _ _ _ _ hF) h
          · cases h
        · cases h
    · cases h
theorem e_ivs_le {P : e_Pg} {n k pc : Nat} {lv : List (Nat × Value)} {st : List Value} {mem : List e_C} {i : Nat} {y : Option Value × List e_C} (ih : ∀ k pc lv st mem y, e_run P n k pc lv st mem = some y → e_le mem y.2) (h : e_ivs P (e_run P n) k pc lv st mem i = some y) : e_le mem y.2 := by
  unfold e_ivs at h
  simp only [Bool.cond_eq_ite] at h
  split at h
  · cases h
  · split at h
    · exact e_go_le ih (fun F hF => e_q_bli hF) h
    · split at h
      · exact e_aft_le ih (fun F hF => ih _ _ _ _ _ _ hF) h
      · cases h
theorem e_rt_le {mem : List e_C} {x : Option (Option Value)} {y : Option Value × List e_C} (h : e_rt mem x = some y) : e_le mem y.2 := by
  unfold e_rt at h
  split at h
  · cases h; exact e_le.rf
  · cases h
theorem e_run_le {P : e_Pg} : ∀ (n k pc : Nat) (lv : List (Nat × Value)) (st : List Value) (mem : List e_C) (y : Option Value × List e_C), e_run P n k pc lv st mem = some y → e_le mem y.2
  | 0, _, _, _, _, _, _, h => by cases h
  | n + 1, k, pc, lv, st, mem, y, h => by
    rw [e_run_succ] at h
    have ih := e_run_le (P := P) n
    unfold e_body at h
    simp only [Bool.cond_eq_ite] at h
    split at h
    · next x hx =>
      split at h
      · unfold e_one at h
        split at h
        · exact e_inv_le ih h
        · exact e_inv_le ih h
        · exact e_ivs_le ih h
        · exact e_rt_le h
        · exact e_rt_le h
        · exact e_rt_le h
        · exact e_rt_le h
        · exact e_go_le ih (fun F hF => e_step_le hF) h
      · cases h
    · cases h
def e_ws (P : e_Pg) (Ts : List Cond) (j : Nat) : List Cond := Cond.code (e_mth P j).1 (e_mth P j).2.1 (e_mth P j).2.2.1 (e_mth P j).2.2.2 :: Ts
def e_rm (P : e_Pg) (j : Nat) (mem mem' : List e_C) : Room := { frames := (e_rmo P j).1, cells := mem'.length - mem.length, slots := e_sl mem' - e_sl mem, locals := (e_rmo P j).2.1 }
def e_Pc (P : e_Pg) (D : va_G) (cl : List vw_C) (Ns : List Cond) (ad : Nat → Nat) (base : Nat) (vs : List Value) (mem : List e_C) : Array Value → State → Prop := fun a U => a = (vs.map (e_cv ad)).toArray ∧ e_P U D ad mem U.heap ∧ U.heap.size + e_ro P = base + mem.length ∧ va_K D cl [] U ∧ (∀ w ∈ Ns, va_Nw w U) ∧ e_K U ad
def e_Qc (P : e_Pg) (D : va_G) (ad : Nat → Nat) (base : Nat) (r : Option Value) (mem' : List e_C) : Array Value → State → Outcome → State → Prop := fun _ _ oc t => oc = .returned (r.map (e_cv ad)) ∧ e_P t D ad mem' t.heap ∧ t.heap.size + e_ro P = base + mem'.length
theorem e_blind {P : e_Pg} {D : va_G} {cl : List vw_C} {Ns : List Cond} {ad : Nat → Nat} {base : Nat} {vs : List Value} {mem : List e_C} (hN : e_gN Ns) : FrameBlind (e_Pc P D cl Ns ad base vs mem) := by
  intro a U g mk ⟨h1, h2, h3, h4, h5, h6⟩
  refine ⟨h1, e_P.moved (s := U) (U := U.calling g mk a) (Vm.Alike.refl U.vm) h2, h3, va_K.moved (u := U) (U := U.calling g mk a) (Vm.Alike.refl U.vm) h4, fun w hw => ?_, fun i hi => vk_R.same (rfl : (U.calling g mk a).vm = U.vm) (h6 i hi)⟩
  obtain ⟨x1, x2, x3, x4, rfl⟩ := hN w hw
  exact va_Nw.same rfl (rfl : U.vm = (U.calling g mk a).vm) (h5 _ hw)
/-- n steps at most of the small machine are sound, at whatever frame -/
def e_S (l : Launch) (P : e_Pg) (D : va_G) (cl : List vw_C) (Ts Ns : List Cond) (ad : Nat → Nat) (base n : Nat) : Prop :=
  ∀ (k pc : Nat) (lv : List (Nat × Value)) (st : List Value) (mem : List e_C) (r : Option Value) (mem' : List e_C), e_run P n k pc lv st mem = some (r, mem') → e_ro P ≤ mem.length →
  ∀ (p : Program) (e : Env) (R : Room) (s : State) (m : MethodId) (args : Array Value) (below : List Frame) (meth : Method) (c : Code) (Q : State → Prop) (n0 z0 : Nat), e_X p s m args meth c P D cl Ts Ns ad k → (e_rmo P k).1 ≤ R.frames → (e_rmo P k).2.1 ≤ R.locals → mem'.length ≤ R.cells + n0 → e_sl mem' ≤ R.slots + z0 →
  (∀ (pc' : Nat) (i : Instr) (lv' : List (Nat × Value)) (st' : List Value), decode (e_mth P k).2.1 pc' = .ok (i, 1) → e_ret (e_mth P k).2.2.2 i st' = some r → e_W p l e R s m args below meth c Q P D ad base n0 z0 k pc' lv' st' mem') →
  e_W p l e R s m args below meth c Q P D ad base n0 z0 k pc lv st mem
theorem e_lgsl : ∀ vs : List Value, (lg_sl vs).length = (vs.map fun v => v.category).sum
  | [] => rfl
  | v :: vs => by
    have ih := e_lgsl vs
    unfold lg_sl at ih ⊢
    rw [List.flatMap_cons, List.length_append, ih, List.map_cons, List.sum_cons]
    rcases lv_cat v with h | h <;> simp [h]
theorem e_catsum (ad : Nat → Nat) (vs : List Value) : ((vs.map (e_cv ad)).map fun v => v.category).sum = (vs.map fun v => v.category).sum := by
  rw [List.map_map]
  congr 1
  apply List.map_congr_left
  intro v _
  exact e_cv_cat ad v
theorem e_met {l : Launch} {P : e_Pg} {D : va_G} {cl : List vw_C} {Ts Ns : List Cond} {ad : Nat → Nat} {base n j : Nat} {vs : List Value} {mem mem' : List e_C} {r : Option Value} (hS : e_S l P D cl Ts Ns ad base n) (hrun : e_run P n j 0 (lv_args 0 vs) [] mem = some (r, mem')) (hmem : e_ro P ≤ mem.length)
    (hpl : plainName (e_mth P j).1.cls = true) (hvs : (vs.map fun v => v.category).sum ≤ (e_mth P j).2.2.1) :
    Met l (e_mth P j).1 (e_ws P Ts j) (e_rm P j mem mem') (e_Pc P D cl Ns ad base vs mem) (e_Qc P D ad base r mem') (mem'.length - mem.length) (e_sl mem' - e_sl mem) (fun q => base ≤ q) := by
  obtain ⟨le1, le2⟩ := e_run_le _ _ _ _ _ _ _ hrun
  dsimp only at le1 le2
  refine Met.ofW (cc := (e_mth P j).2.1) (maxL := (e_mth P j).2.2.1) (ret := (e_mth P j).2.2.2) hpl rfl ?_
  intro p e s m args below meth c s₁ B hml hv
  obtain ⟨rfl, hP, hz, hK, hN, hK8⟩ := hv
  have hts := atoms_spec (ws := e_ws P Ts j) B.pre
  have hlocks := B.notSynchronized
  have X : e_X p s m (vs.map (e_cv ad)).toArray meth c P D cl Ts Ns ad j := ⟨B.exec, B.bytes, hml, findClass_of_methodNamed B.named, fun w hw => hts w (List.mem_cons_of_mem _ hw), hN, hK, fun hi => (name_of_methodNamed B.named B.method).1.trans hi, hK8⟩
  have hl := lv_entry (vs.map (e_cv ad)) (n := (e_mth P j).2.2.1) (by rw [e_lgsl, e_catsum]; exact hvs)
  rw [lg_entry_eq]
  generalize (lg_sl (vs.map (e_cv ad)) ++ List.replicate ((e_mth P j).2.2.1 - (lg_sl (vs.map (e_cv ad))).length) Slot.unset).toArray = ls at hl ⊢
  rw [e_lv_args] at hl
  refine hS j 0 _ [] mem r mem' hrun hmem p e _ s m _ below meth c _ mem.length (e_sl mem) X (Nat.le_refl _) (Nat.le_refl _) (by show _ ≤ mem'.length - mem.length + _; omega) (by show _ ≤ e_sl mem' - e_sl mem + _; omega) ?_ s.heap [] 0 0 ls hP hz (fun x hx => by cases hx) hl (by omega) (by omega)
  intro pc' i lv' st' hd hr H locs cells slots ls hP hz hlo hl hc hs
  have ec : cells = mem'.length - mem.length := by omega
  have es : slots = e_sl mem' - e_sl mem := by omega
  subst ec; subst es
  have post : ∀ t : State, t.heap = H → s.WarmedH t.vm → e_P t D ad mem' t.heap ∧ t.heap.size + e_ro P = base + mem'.length := fun t ht hW => ⟨by rw [ht]; exact hP.moved hW.alike, by rw [ht]; exact hz⟩
  have hret := B.returns
  unfold e_ret at hr
  split at hr
  · next x hty =>
    cases hr
    exact W.iret B.exec B.bytes (hret.trans hty) (fun t ht hW => ⟨rfl, post t ht hW⟩) hlo hd
  · next x hty =>
    simp only [Bool.cond_eq_ite] at hr
    split at hr
    · next hf =>
      cases hr
      exact W.zret B.exec B.bytes (hret.trans hty) (e_fit_narrow hf).1 (fun t ht hW => ⟨rfl, post t ht hW⟩) hlo hd
    · cases hr
  · next x hty =>
    cases hr
    exact W.lret B.exec B.bytes (hret.trans hty) (fun t ht hW => ⟨rfl, post t ht hW⟩) hlo hd
  · next cn x hty =>
    cases hr
    exact W.aret B.exec B.bytes (hret.trans hty) (Or.inl ⟨_, rfl⟩) (Or.inr ⟨_, rfl⟩) (fun t ht hW => ⟨rfl, post t ht hW⟩) hlo hd
  · next hty =>
    cases hr
    exact W.vret B.exec B.bytes (hret.trans hty) (fun t ht hW => ⟨rfl, post t ht hW⟩) hlo hd
  · cases hr
