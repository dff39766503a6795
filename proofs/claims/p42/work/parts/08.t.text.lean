/-! TEXTS: length() and charAt() of the class's own texts, by the JDK's own code -/
theorem td_cod_0 : decode tb_cod 0 = .ok (.getstatic 38, 3) := by decide +kernel
theorem td_cod_3 : decode tb_cod 3 = .ok (.ifCond .eq 10, 3) := by decide +kernel
theorem td_cod_6 : decode tb_cod 6 = .ok (.aload_n 0, 1) := by decide +kernel
theorem td_cod_7 : decode tb_cod 7 = .ok (.getfield 15, 3) := by decide +kernel
theorem td_cod_10 : decode tb_cod 10 = .ok (.goto 4, 3) := by decide +kernel
theorem td_cod_14 : decode tb_cod 14 = .ok (.ireturn, 1) := by decide +kernel
theorem td_lat_0 : decode tb_lat 0 = .ok (.getstatic 38, 3) := by decide +kernel
theorem td_lat_3 : decode tb_lat 3 = .ok (.ifCond .eq 14, 3) := by decide +kernel
theorem td_lat_6 : decode tb_lat 6 = .ok (.aload_n 0, 1) := by decide +kernel
theorem td_lat_7 : decode tb_lat 7 = .ok (.getfield 15, 3) := by decide +kernel
theorem td_lat_10 : decode tb_lat 10 = .ok (.ifCond .ne 7, 3) := by decide +kernel
theorem td_lat_13 : decode tb_lat 13 = .ok (.iconst 1, 1) := by decide +kernel
theorem td_lat_14 : decode tb_lat 14 = .ok (.goto 4, 3) := by decide +kernel
theorem td_lat_18 : decode tb_lat 18 = .ok (.ireturn, 1) := by decide +kernel
theorem td_pch_0 : decode tb_pch 0 = .ok (.iload_n 0, 1) := by decide +kernel
theorem td_pch_1 : decode tb_pch 1 = .ok (.ifCond .lt 8, 3) := by decide +kernel
theorem td_pch_4 : decode tb_pch 4 = .ok (.iload_n 0, 1) := by decide +kernel
theorem td_pch_5 : decode tb_pch 5 = .ok (.iload_n 1, 1) := by decide +kernel
theorem td_pch_6 : decode tb_pch 6 = .ok (.if_icmp .lt 10, 3) := by decide +kernel
theorem td_pch_16 : decode tb_pch 16 = .ok (.iload_n 0, 1) := by decide +kernel
theorem td_pch_17 : decode tb_pch 17 = .ok (.ireturn, 1) := by decide +kernel
theorem td_chk_0 : decode tb_chk 0 = .ok (.iload_n 0, 1) := by decide +kernel
theorem td_chk_1 : decode tb_chk 1 = .ok (.iload_n 1, 1) := by decide +kernel
theorem td_chk_2 : decode tb_chk 2 = .ok (.getstatic 1053, 3) := by decide +kernel
theorem td_chk_5 : decode tb_chk 5 = .ok (.invokestatic 1059, 3) := by decide +kernel
theorem td_chk_8 : decode tb_chk 8 = .ok (.pop, 1) := by decide +kernel
theorem td_chk_9 : decode tb_chk 9 = .ok (.return_, 1) := by decide +kernel
theorem td_lch_0 : decode tb_lch 0 = .ok (.iload_n 1, 1) := by decide +kernel
theorem td_lch_1 : decode tb_lch 1 = .ok (.aload_n 0, 1) := by decide +kernel
theorem td_lch_2 : decode tb_lch 2 = .ok (.arraylength, 1) := by decide +kernel
theorem td_lch_3 : decode tb_lch 3 = .ok (.invokestatic 9, 3) := by decide +kernel
theorem td_lch_6 : decode tb_lch 6 = .ok (.aload_n 0, 1) := by decide +kernel
theorem td_lch_7 : decode tb_lch 7 = .ok (.iload_n 1, 1) := by decide +kernel
theorem td_lch_8 : decode tb_lch 8 = .ok (.baload, 1) := by decide +kernel
theorem td_lch_9 : decode tb_lch 9 = .ok (.sipush 255, 3) := by decide +kernel
theorem td_lch_12 : decode tb_lch 12 = .ok (.iand, 1) := by decide +kernel
theorem td_lch_13 : decode tb_lch 13 = .ok (.i2c, 1) := by decide +kernel
theorem td_lch_14 : decode tb_lch 14 = .ok (.ireturn, 1) := by decide +kernel
theorem td_chr_0 : decode tb_chr 0 = .ok (.aload_n 0, 1) := by decide +kernel
theorem td_chr_1 : decode tb_chr 1 = .ok (.invokevirtual 492, 3) := by decide +kernel
theorem td_chr_4 : decode tb_chr 4 = .ok (.ifCond .eq 12, 3) := by decide +kernel
theorem td_chr_7 : decode tb_chr 7 = .ok (.aload_n 0, 1) := by decide +kernel
theorem td_chr_8 : decode tb_chr 8 = .ok (.getfield 9, 3) := by decide +kernel
theorem td_chr_11 : decode tb_chr 11 = .ok (.iload_n 1, 1) := by decide +kernel
theorem td_chr_12 : decode tb_chr 12 = .ok (.invokestatic 495, 3) := by decide +kernel
theorem td_chr_15 : decode tb_chr 15 = .ok (.ireturn, 1) := by decide +kernel
theorem td_len_0 : decode tb_len 0 = .ok (.aload_n 0, 1) := by decide +kernel
theorem td_len_1 : decode tb_len 1 = .ok (.getfield 9, 3) := by decide +kernel
theorem td_len_4 : decode tb_len 4 = .ok (.arraylength, 1) := by decide +kernel
theorem td_len_5 : decode tb_len 5 = .ok (.aload_n 0, 1) := by decide +kernel
theorem td_len_6 : decode tb_len 6 = .ok (.invokevirtual 335, 3) := by decide +kernel
theorem td_len_9 : decode tb_len 9 = .ok (.ishr, 1) := by decide +kernel
theorem td_len_10 : decode tb_len 10 = .ok (.ireturn, 1) := by decide +kernel
def tx_rm (f n : Nat) : Room := { frames := f, cells := 0, slots := 0, locals := n }
def tx_Pc (ad : Nat → Nat) (H0 : Heap) (vs : List Value) : Array Value → State → Prop := fun a U => a = vs.toArray ∧ U.heap = H0 ∧ e_V U ad H0
def tx_Qc (H0 : Heap) (r : Option Value) : Array Value → State → Outcome → State → Prop := fun _ _ oc t => oc = .returned r ∧ t.heap = H0
theorem tx_blind {ad : Nat → Nat} {H0 : Heap} {vs : List Value} : FrameBlind (tx_Pc ad H0 vs) := by
  intro a U g mk ⟨h1, h2, h3⟩
  exact ⟨h1, h2, e_V.moved (s := U) (U := U.calling g mk a) (Vm.Alike.refl U.vm) h3⟩
theorem tx_chars : ∀ i, i < 8 → (e_lens.getD i 0 = (e_byts.getD i []).length ∧ (e_byts.getD i []).length < 100 ∧ ∀ x ∈ e_byts.getD i [], narrow .char (.int x) = .int x ∧ x &&& 255 = x ∧ (x.toUInt32 % 65536).toInt32 = x) := by decide +kernel
section TXT
variable {p : Program} {l : Launch} {e : Env} {R : Room} {s : State} {m : MethodId} {args : Array Value} {below : List Frame} {meth : Method} {c : Code} {Q : State → Prop}
theorem tx_back {H : Heap} {locs : List Loc} {cells slots pc : Nat} {ls : Array Slot} {st0 rest : List Value} {r : Option Value} {a : Array Value} (hr : va_Run p l e R s m args below meth c H locs cells slots 0 0 (F0 m pc ls st0) rest (tx_Qc H r a) (fun _ => False))
    (kk : W p l e R s m args below meth c H locs cells slots Q (F0 m (pc + 3) ls (r.toList ++ rest))) : W p l e R s m args below meth c H locs cells slots Q (F0 m pc ls st0) := by
  intro T hT X
  obtain ⟨v, st₀, t, T', L, h0, X', hL, e1, e2, ⟨hv, hh⟩, st⟩ := hr T hT X
  have hv : v = r := Outcome.returned.inj hv
  subst hv
  have hL0 : L = [] := List.eq_nil_iff_forall_not_mem.mpr (fun q hq => hL q hq)
  subst hL0
  obtain ⟨t2, a1, b1⟩ := kk T' (by rw [e1, hh]) (by simpa using X')
  exact ⟨t2, st t2 a1, b1⟩
variable {Ts : List Cond} {ad : Nat → Nat} {H0 : Heap}
theorem tx_good (hg : ∀ w ∈ Ts, goodWord w = true) {w : Cond} (h : w ∈ Ts) : GoodIn Ts (w :: Ts) := by
  intro v hv
  rcases List.mem_cons.mp hv with rfl | hv
  · exact ⟨h, good_of_word (hg _ h)⟩
  · exact ⟨hv, good_of_word (hg v hv)⟩
/-- coder() -/
theorem tx_cod_met (hw : ∀ w ∈ e_tw, w ∈ Ts) {i : Nat} (hi : i < 8) : Met l tx_cod (Cond.code tx_cod tb_cod 1 (some .byte) :: Ts) (tx_rm 0 0) (tx_Pc ad H0 [.ref (ad (1 + i))]) (tx_Qc H0 (some (.int 0))) 0 0 (fun _ => False) := by
  refine Met.ofW (cc := tb_cod) (maxL := 1) (ret := some .byte) (by decide) rfl ?_
  intro p e s m args below meth c s₁ B hml hv
  obtain ⟨rfl, rfl, adV, w, hS, hZ, hZ2, hwc⟩ := hv
  have hts := atoms_spec (ws := Cond.code tx_cod tb_cod 1 (some .byte) :: Ts) B.pre
  have ht : ∀ w ∈ e_tw, w.before _ s = true := fun w h => hts w (List.mem_cons_of_mem _ (hw w h))
  have hown : s.vm.findClass "java/lang/String" = some m.cls := findClass_of_methodNamed B.named
  have hlocks := B.notSynchronized
  have hl := lv_entry [.ref (ad (1 + i))] (n := 1) (Nat.le_of_ble_eq_true rfl)
  rw [lg_entry_eq]
  generalize (lg_sl [.ref (ad (1 + i))] ++ List.replicate (1 - (lg_sl [.ref (ad (1 + i))]).length) Slot.unset).toArray = ls at hl ⊢
  refine va_gets B.exec B.bytes hZ va_S.rf hown (ht _ (by decide +kernel)) (fun x hx => hx) td_cod_0 ?_
  refine lv_if_eq B.exec B.bytes td_cod_3 (tgt := 13) (by decide) (fun h => absurd h (by decide)) (fun _ => ?_)
  refine lv_aload_n B.exec B.bytes td_cod_6 rfl (lv_at hl 0 rfl) ?_
  refine vk_getf B.exec B.bytes (hS.1 i hi).2.1 va_S.rf hown (ht _ (by decide +kernel)) (fun x hx => hx) td_cod_7 ?_
  refine lv_goto B.exec B.bytes td_cod_10 (tgt := 14) (by decide) ?_
  exact W.zret B.exec B.bytes B.returns rfl (fun t ht _ => ⟨rfl, ht⟩) (fun q hq => by cases hq) td_cod_14
/-- isLatin1() -/
theorem tx_lat_met (hw : ∀ w ∈ e_tw, w ∈ Ts) {i : Nat} (hi : i < 8) : Met l tx_lat (Cond.code tx_lat tb_lat 1 (some .boolean) :: Ts) (tx_rm 0 0) (tx_Pc ad H0 [.ref (ad (1 + i))]) (tx_Qc H0 (some (.int 1))) 0 0 (fun _ => False) := by
  refine Met.ofW (cc := tb_lat) (maxL := 1) (ret := some .boolean) (by decide) rfl ?_
  intro p e s m args below meth c s₁ B hml hv
  obtain ⟨rfl, rfl, adV, w, hS, hZ, hZ2, hwc⟩ := hv
  have hts := atoms_spec (ws := Cond.code tx_lat tb_lat 1 (some .boolean) :: Ts) B.pre
  have ht : ∀ w ∈ e_tw, w.before _ s = true := fun w h => hts w (List.mem_cons_of_mem _ (hw w h))
  have hown : s.vm.findClass "java/lang/String" = some m.cls := findClass_of_methodNamed B.named
  have hlocks := B.notSynchronized
  have hl := lv_entry [.ref (ad (1 + i))] (n := 1) (Nat.le_of_ble_eq_true rfl)
  rw [lg_entry_eq]
  generalize (lg_sl [.ref (ad (1 + i))] ++ List.replicate (1 - (lg_sl [.ref (ad (1 + i))]).length) Slot.unset).toArray = ls at hl ⊢
  refine va_gets B.exec B.bytes hZ va_S.rf hown (ht _ (by decide +kernel)) (fun x hx => hx) td_lat_0 ?_
  refine lv_if_eq B.exec B.bytes td_lat_3 (tgt := 17) (by decide) (fun h => absurd h (by decide)) (fun _ => ?_)
  refine lv_aload_n B.exec B.bytes td_lat_6 rfl (lv_at hl 0 rfl) ?_
  refine vk_getf B.exec B.bytes (hS.1 i hi).2.1 va_S.rf hown (ht _ (by decide +kernel)) (fun x hx => hx) td_lat_7 ?_
  refine lv_if_ne B.exec B.bytes td_lat_10 (tgt := 17) (by decide) (fun h => absurd rfl h) (fun _ => ?_)
  refine lv_iconst B.exec B.bytes td_lat_13 rfl ?_
  refine lv_goto B.exec B.bytes td_lat_14 (tgt := 18) (by decide) ?_
  exact W.zret B.exec B.bytes B.returns rfl (fun t ht _ => ⟨rfl, ht⟩) (fun q hq => by cases hq) td_lat_18
/-- Preconditions.checkIndex(i, n, f), the index being good -/
theorem tx_pch_met {j n : Int32} {w : Value} (h0 : ¬ j < 0) (h1 : j < n) (hwc : w.category = 1) : Met l tx_pch (Cond.code tx_pch tb_pch 3 (some .int) :: Ts) (tx_rm 0 0) (tx_Pc ad H0 [.int j, .int n, w]) (tx_Qc H0 (some (.int j))) 0 0 (fun _ => False) := by
  refine Met.ofW (cc := tb_pch) (maxL := 3) (ret := some .int) (by decide) rfl ?_
  intro p e s m args below meth c s₁ B hml hv
  obtain ⟨rfl, rfl, -⟩ := hv
  have hlocks := B.notSynchronized
  have hl := lv_entry [.int j, .int n, w] (n := 3) (by rw [e_lgsl]; show 1 + (1 + (w.category + 0)) ≤ 3; rw [hwc]; decide)
  rw [lg_entry_eq]
  generalize (lg_sl [.int j, .int n, w] ++ List.replicate (3 - (lg_sl [.int j, .int n, w]).length) Slot.unset).toArray = ls at hl ⊢
  refine lv_iload_n B.exec B.bytes td_pch_0 rfl (lv_at hl 0 rfl) ?_
  refine lv_if_lt B.exec B.bytes td_pch_1 (tgt := 9) (by decide) (fun h => absurd h h0) (fun _ => ?_)
  refine lv_iload_n B.exec B.bytes td_pch_4 rfl (lv_at hl 0 rfl) ?_
  refine lv_iload_n B.exec B.bytes td_pch_5 rfl (lv_at hl 1 rfl) ?_
  refine lv_icmp_lt B.exec B.bytes td_pch_6 (tgt := 16) (by decide) (fun _ => ?_) (fun h => absurd h1 h)
  refine lv_iload_n B.exec B.bytes td_pch_16 rfl (lv_at hl 0 rfl) ?_
  exact W.iret B.exec B.bytes B.returns (fun t ht _ => ⟨rfl, ht⟩) (fun q hq => by cases hq) td_pch_17
/-- String.checkIndex(i, n), the index being good -/
theorem tx_chk_met (hg : ∀ w ∈ Ts, goodWord w = true) (hw : ∀ w ∈ e_tw, w ∈ Ts) {j n : Int32} (h0 : ¬ j < 0) (h1 : j < n) : Met l tx_chk (Cond.code tx_chk tb_chk 2 none :: Ts) (tx_rm 1 22) (tx_Pc ad H0 [.int j, .int n]) (tx_Qc H0 none) 0 0 (fun _ => False) := by
  refine Met.ofW (cc := tb_chk) (maxL := 2) (ret := none) (by decide) rfl ?_
  intro p e s m args below meth c s₁ B hml hv
  obtain ⟨rfl, rfl, hV⟩ := hv
  obtain ⟨adV, w, hS, hZ, hZ2, hwc⟩ := id hV
  have hts := atoms_spec (ws := Cond.code tx_chk tb_chk 2 none :: Ts) B.pre
  have hts : ∀ w ∈ Ts, w.before _ s = true := fun w h => hts w (List.mem_cons_of_mem _ h)
  have ht : ∀ w ∈ e_tw, w.before _ s = true := fun w h => hts w (hw w h)
  have hown : s.vm.findClass "java/lang/String" = some m.cls := findClass_of_methodNamed B.named
  have hlocks := B.notSynchronized
  have hl := lv_entry [.int j, .int n] (n := 2) (Nat.le_of_ble_eq_true rfl)
  rw [lg_entry_eq]
  generalize (lg_sl [.int j, .int n] ++ List.replicate (2 - (lg_sl [.int j, .int n]).length) Slot.unset).toArray = ls at hl ⊢
  refine lv_iload_n B.exec B.bytes td_chk_0 rfl (lv_at hl 0 rfl) ?_
  refine lv_iload_n B.exec B.bytes td_chk_1 rfl (lv_at hl 1 rfl) ?_
  refine va_gets B.exec B.bytes hZ2 va_S.rf hown (ht _ (by decide +kernel)) (fun x hx => hx) td_chk_2 ?_
  have hcf : CallFix p m c tb_chk 2 s _ Ts "java/lang/String" := ⟨B.exec, B.bytes, hml, hown, hts⟩
  refine tx_back (r := some (.int j)) (va_runS (rest := []) (As := [.int j, .int n, w]) hcf (tx_pch_met (l := l) (Ts := Ts) (ad := ad) (H0 := s.heap) h0 h1 hwc) ⟨callB_of 3 hts (tx_good hg (hw _ (by decide +kernel))) rfl rfl rfl (ht _ (by decide +kernel)) (ht _ (by decide +kernel)) ⟨by decide, by decide, by decide +kernel⟩ ⟨Nat.le_refl _, Nat.le_refl _⟩, ht _ (by decide +kernel)⟩ ⟨tx_blind, fun U hU hW => ⟨rfl, hU, hV.moved hW.alike⟩⟩ rfl rfl hl.1 rfl (Nat.le_of_ble_eq_true rfl) td_chk_5 ⟨Nat.le_refl _, Nat.le_refl _⟩) ?_
  refine lv_pop B.exec B.bytes td_chk_8 rfl ?_
  exact W.vret B.exec B.bytes B.returns (fun t ht _ => ⟨rfl, ht⟩) (fun q hq => by cases hq) td_chk_9
theorem tx_lt {j : Int32} {n : Nat} (hn : n < 100) (h0 : ¬ j < 0) (h1 : j.toNatClampNeg < n) : j < Int32.ofNat n ∧ vp_in j n := by
  refine ⟨?_, fun h => ?_⟩
  · obtain ⟨a, ha, rfl⟩ := nI_of h0
    rw [nI_clamp ha] at h1
    exact nI_lt h1 (by omega)
  · rcases h with h | h
    · exact h0 h
    · omega
/-- StringLatin1.charAt(value, j) -/
theorem tx_lch_met (hg : ∀ w ∈ Ts, goodWord w = true) (hw : ∀ w ∈ e_tw, w ∈ Ts) {i : Nat} (hi : i < 8) {j x : Int32} {v : Nat} {N : Nat} {f : Nat → Int32} (hN : N < 100) (h0 : ¬ j < 0) (h1 : j.toNatClampNeg < N) (hx : f j.toNatClampNeg = x) (hn : narrow .char (.int x) = .int x ∧ x &&& 255 = x ∧ (x.toUInt32 % 65536).toInt32 = x) :
    Met l tx_lch (Cond.code tx_lch tb_lch 2 (some .char) :: Ts) (tx_rm 2 43) (fun a U => tx_Pc ad H0 [.ref v, .int j] a U ∧ va_T .byte v N (fun j => .int (f j)) (e_sA ad) U H0) (tx_Qc H0 (some (.int x))) 0 0 (fun _ => False) := by
  refine Met.ofW (cc := tb_lch) (maxL := 2) (ret := some .char) (by decide) rfl ?_
  intro p e s m args below meth c s₁ B hml hv
  obtain ⟨⟨rfl, rfl, hV⟩, hT⟩ := hv
  have hts := atoms_spec (ws := Cond.code tx_lch tb_lch 2 (some .char) :: Ts) B.pre
  have hts : ∀ w ∈ Ts, w.before _ s = true := fun w h => hts w (List.mem_cons_of_mem _ h)
  have ht : ∀ w ∈ e_tw, w.before _ s = true := fun w h => hts w (hw w h)
  have hown : s.vm.findClass "java/lang/StringLatin1" = some m.cls := findClass_of_methodNamed B.named
  have hlocks := B.notSynchronized
  have hl := lv_entry [.ref v, .int j] (n := 2) (Nat.le_of_ble_eq_true rfl)
  rw [lg_entry_eq]
  generalize (lg_sl [.ref v, .int j] ++ List.replicate (2 - (lg_sl [.ref v, .int j]).length) Slot.unset).toArray = ls at hl ⊢
  obtain ⟨g1, g2⟩ := tx_lt hN h0 h1
  refine lv_iload_n B.exec B.bytes td_lch_0 rfl (lv_at hl 1 rfl) ?_
  refine lv_aload_n B.exec B.bytes td_lch_1 rfl (lv_at hl 0 rfl) ?_
  refine va_tlen B.exec B.bytes hT va_S.rf rfl td_lch_2 ?_
  have hcf : CallFix p m c tb_lch 2 s _ Ts "java/lang/StringLatin1" := ⟨B.exec, B.bytes, hml, hown, hts⟩
  refine tx_back (r := none) (va_runS (rest := []) (As := [.int j, .int (Int32.ofNat N)]) hcf (tx_chk_met (l := l) (Ts := Ts) (ad := ad) (H0 := s.heap) hg hw h0 g1) ⟨callB_of 2 hts (tx_good hg (hw _ (by decide +kernel))) rfl rfl rfl (ht _ (by decide +kernel)) (ht _ (by decide +kernel)) ⟨by decide, by decide, by decide +kernel⟩ ⟨Nat.le_refl _, Nat.le_refl _⟩, ht _ (by decide +kernel)⟩ ⟨tx_blind, fun U hU hW => ⟨rfl, hU, hV.moved hW.alike⟩⟩ rfl rfl hl.1 rfl (Nat.le_of_ble_eq_true rfl) td_lch_3 ⟨Nat.le_refl _, Nat.le_refl _⟩) ?_
  refine lv_aload_n B.exec B.bytes td_lch_6 rfl (lv_at hl 0 rfl) ?_
  refine lv_iload_n B.exec B.bytes td_lch_7 rfl (lv_at hl 1 rfl) ?_
  refine va_tb B.exec B.bytes hT va_S.rf g2 (v := .int x) (by rw [← hx]) td_lch_8 ?_
  refine lv_sipush B.exec B.bytes td_lch_9 rfl ?_
  refine lv_iand B.exec B.bytes td_lch_12 ?_
  refine lv_i2c B.exec B.bytes (v := x) td_lch_13 (by rw [show (Int16.ofInt 255).toInt32 = (255 : Int32) from rfl, hn.2.1]; exact hn.2.2) ?_
  exact W.zret B.exec B.bytes B.returns hn.1 (fun t ht _ => ⟨rfl, ht⟩) (fun q hq => by cases hq) td_lch_14
/-- charAt(j) -/
theorem tx_chr_met (hg : ∀ w ∈ Ts, goodWord w = true) (hw : ∀ w ∈ e_tw, w ∈ Ts) {i : Nat} (hi : i < 8) {j x : Int32} (h0 : ¬ j < 0) (hx : (e_byts.getD i [])[j.toNatClampNeg]? = some x) : Met l tx_chr (Cond.code tx_chr tb_chr 2 (some .char) :: Ts) (tx_rm 3 64) (tx_Pc ad H0 [.ref (ad (1 + i)), .int j]) (tx_Qc H0 (some (.int x))) 0 0 (fun _ => False) := by
  refine Met.ofW (cc := tb_chr) (maxL := 2) (ret := some .char) (by decide) rfl ?_
  intro p e s m args below meth c s₁ B hml hv
  obtain ⟨rfl, rfl, hV⟩ := hv
  obtain ⟨adV, w, hS, hZ, hZ2, hwc⟩ := id hV
  have hts := atoms_spec (ws := Cond.code tx_chr tb_chr 2 (some .char) :: Ts) B.pre
  have hts : ∀ w ∈ Ts, w.before _ s = true := fun w h => hts w (List.mem_cons_of_mem _ h)
  have ht : ∀ w ∈ e_tw, w.before _ s = true := fun w h => hts w (hw w h)
  have hown : s.vm.findClass "java/lang/String" = some m.cls := findClass_of_methodNamed B.named
  have hlocks := B.notSynchronized
  have hl := lv_entry [.ref (ad (1 + i)), .int j] (n := 2) (Nat.le_of_ble_eq_true rfl)
  rw [lg_entry_eq]
  generalize (lg_sl [.ref (ad (1 + i)), .int j] ++ List.replicate (2 - (lg_sl [.ref (ad (1 + i)), .int j]).length) Slot.unset).toArray = ls at hl ⊢
  obtain ⟨c1, c2, c3⟩ := tx_chars i hi
  have hlt : j.toNatClampNeg < (e_byts.getD i []).length := (List.getElem?_eq_some_iff.mp hx).1
  have hxm : x ∈ e_byts.getD i [] := List.mem_of_getElem? hx
  obtain ⟨o1, o2, o3, o4⟩ := hS.1 i hi
  obtain ⟨cell, r1, r2, r3, -⟩ := o1
  have hcf : CallFix p m c tb_chr 2 s _ Ts "java/lang/String" := ⟨B.exec, B.bytes, hml, hown, hts⟩
  refine lv_aload_n B.exec B.bytes td_chr_0 rfl (lv_at hl 0 rfl) ?_
  refine tx_back (r := some (.int 1)) (va_runV (C := "java/lang/String") (rest := []) (As := []) (b := ad (1 + i)) hcf (tx_lat_met (l := l) (Ts := Ts) (ad := ad) (H0 := s.heap) hw hi) ⟨callB_of 0 hts (tx_good hg (hw _ (by decide +kernel))) rfl rfl rfl (ht _ (by decide +kernel)) (ht _ (by decide +kernel)) ⟨by decide, by decide, by decide +kernel⟩ ⟨Nat.le_of_ble_eq_true rfl, Nat.le_of_ble_eq_true rfl⟩, ht _ (by decide +kernel), ht _ (by decide +kernel)⟩ ⟨tx_blind, ⟨cell, r1, r2, r3⟩, fun U hU hW => ⟨rfl, hU, hV.moved hW.alike⟩⟩ rfl rfl hl.1 rfl (Nat.le_of_ble_eq_true rfl) td_chr_1 ⟨Nat.le_refl _, Nat.le_refl _⟩) ?_
  refine lv_if_eq B.exec B.bytes td_chr_4 (tgt := 16) (by decide) (fun h => absurd h (by decide)) (fun _ => ?_)
  refine lv_aload_n B.exec B.bytes td_chr_7 rfl (lv_at hl 0 rfl) ?_
  refine vk_getf B.exec B.bytes o3 va_S.rf hown (ht _ (by decide +kernel)) (fun x hx => hx) td_chr_8 ?_
  refine lv_iload_n B.exec B.bytes td_chr_11 rfl (lv_at hl 1 rfl) ?_
  refine tx_back (r := some (.int x)) (va_runS (rest := []) (As := [.ref (adV i), .int j]) hcf (tx_lch_met (l := l) (Ts := Ts) (ad := ad) (H0 := s.heap) (v := adV i) (N := e_lens.getD i 0) (f := fun j => (e_byts.getD i []).getD j 0) hg hw hi (by omega) h0 (by omega) (by rw [List.getD_eq_getElem?_getD, hx]; rfl) (c3 x hxm)) ⟨callB_of 2 hts (tx_good hg (hw _ (by decide +kernel))) rfl rfl rfl (ht _ (by decide +kernel)) (ht _ (by decide +kernel)) ⟨by decide, by decide, by decide +kernel⟩ ⟨Nat.le_refl _, Nat.le_refl _⟩, ht _ (by decide +kernel)⟩ ⟨fun a U g mk hh => ⟨tx_blind a U g mk hh.1, va_T.moved (u := U) (U := U.calling g mk a) (Vm.Alike.refl U.vm) hh.2⟩, fun U hU hW => ⟨⟨rfl, hU, hV.moved hW.alike⟩, o4.moved hW.alike⟩⟩ rfl rfl hl.1 rfl (Nat.le_of_ble_eq_true rfl) td_chr_12 ⟨Nat.le_refl _, Nat.le_refl _⟩) ?_
  exact W.zret B.exec B.bytes B.returns (c3 x hxm).1 (fun t ht _ => ⟨rfl, ht⟩) (fun q hq => by cases hq) td_chr_15
/-- length() -/
theorem tx_len_met (hg : ∀ w ∈ Ts, goodWord w = true) (hw : ∀ w ∈ e_tw, w ∈ Ts) {i : Nat} (hi : i < 8) : Met l tx_len (Cond.code tx_len tb_len 1 (some .int) :: Ts) (tx_rm 1 20) (tx_Pc ad H0 [.ref (ad (1 + i))]) (tx_Qc H0 (some (.int (Int32.ofNat (e_byts.getD i []).length)))) 0 0 (fun _ => False) := by
  refine Met.ofW (cc := tb_len) (maxL := 1) (ret := some .int) (by decide) rfl ?_
  intro p e s m args below meth c s₁ B hml hv
  obtain ⟨rfl, rfl, hV⟩ := hv
  obtain ⟨adV, w, hS, hZ, hZ2, hwc⟩ := id hV
  have hts := atoms_spec (ws := Cond.code tx_len tb_len 1 (some .int) :: Ts) B.pre
  have hts : ∀ w ∈ Ts, w.before _ s = true := fun w h => hts w (List.mem_cons_of_mem _ h)
  have ht : ∀ w ∈ e_tw, w.before _ s = true := fun w h => hts w (hw w h)
  have hown : s.vm.findClass "java/lang/String" = some m.cls := findClass_of_methodNamed B.named
  have hlocks := B.notSynchronized
  have hl := lv_entry [.ref (ad (1 + i))] (n := 1) (Nat.le_of_ble_eq_true rfl)
  rw [lg_entry_eq]
  generalize (lg_sl [.ref (ad (1 + i))] ++ List.replicate (1 - (lg_sl [.ref (ad (1 + i))]).length) Slot.unset).toArray = ls at hl ⊢
  obtain ⟨c1, c2, c3⟩ := tx_chars i hi
  obtain ⟨o1, o2, o3, o4⟩ := hS.1 i hi
  obtain ⟨cell, r1, r2, r3, -⟩ := o1
  have hcf : CallFix p m c tb_len 1 s _ Ts "java/lang/String" := ⟨B.exec, B.bytes, hml, hown, hts⟩
  refine lv_aload_n B.exec B.bytes td_len_0 rfl (lv_at hl 0 rfl) ?_
  refine vk_getf B.exec B.bytes o3 va_S.rf hown (ht _ (by decide +kernel)) (fun x hx => hx) td_len_1 ?_
  refine va_tlen B.exec B.bytes o4 va_S.rf rfl td_len_4 ?_
  refine lv_aload_n B.exec B.bytes td_len_5 rfl (lv_at hl 0 rfl) ?_
  refine tx_back (r := some (.int 0)) (va_runV (C := "java/lang/String") (rest := [.int (Int32.ofNat (e_lens.getD i 0))]) (As := []) (b := ad (1 + i)) hcf (tx_cod_met (l := l) (Ts := Ts) (ad := ad) (H0 := s.heap) hw hi) ⟨callB_of 0 hts (tx_good hg (hw _ (by decide +kernel))) rfl rfl rfl (ht _ (by decide +kernel)) (ht _ (by decide +kernel)) ⟨by decide, by decide, by decide +kernel⟩ ⟨Nat.le_of_ble_eq_true rfl, Nat.le_of_ble_eq_true rfl⟩, ht _ (by decide +kernel), ht _ (by decide +kernel)⟩ ⟨tx_blind, ⟨cell, r1, r2, r3⟩, fun U hU hW => ⟨rfl, hU, hV.moved hW.alike⟩⟩ rfl rfl hl.1 rfl (Nat.le_of_ble_eq_true rfl) td_len_6 ⟨Nat.le_refl _, Nat.le_refl _⟩) ?_
  refine lv_ishr B.exec B.bytes td_len_9 ?_
  rw [c1, show (0 : Int32) &&& 31 = 0 from rfl, show ∀ x : Int32, x >>> (0 : Int32) = x from fun x => by simp]
  exact W.iret B.exec B.bytes B.returns (fun t ht _ => ⟨rfl, ht⟩) (fun q hq => by cases hq) td_len_10
variable {P : e_Pg} {D : va_G} {cl : List vw_C} {Ns : List Cond} {base n0 z0 k : Nat}
theorem e_s_str {n : Nat} (G : e_GD P cl Ts Ns) (hS : e_S l P D cl Ts Ns ad base n) (hA : e_AD ad (e_ro P) base) (X : e_X p s m args meth c P D cl Ts Ns ad k) {pc i : Nat} {sp : Bool} {lv : List (Nat × Value)} {st : List Value} {mem mem' : List e_C} {r : Option Value} {f : Nat × Nat × Nat × Bool} (hcal : e_cal P k i = some f) (h0 : f.1 = 0) (hd : decode (e_mth P k).2.1 pc = .ok (bif sp then .invokespecial i else .invokevirtual i, 3)) (h : e_sgo P (e_run P n) k pc lv st mem sp f.2.2.1 = some (r, mem')) (hmem : e_ro P ≤ mem.length)
    (hRf : (e_rmo P k).1 ≤ R.frames) (hRl : (e_rmo P k).2.1 ≤ R.locals) (hRc : mem'.length ≤ R.cells + n0) (hRs : e_sl mem' ≤ R.slots + z0)
    (hret : ∀ (pc' : Nat) (i : Instr) (lv' : List (Nat × Value)) (st' : List Value), decode (e_mth P k).2.1 pc' = .ok (i, 1) → e_ret (e_mth P k).2.2.2 i st' = some r → e_W p l e R s m args below meth c Q P D ad base n0 z0 k pc' lv' st' mem') : e_W p l e R s m args below meth c Q P D ad base n0 z0 k pc lv st mem := by
  obtain ⟨hx, hb, hml, hown, hts, hns, hK, hname⟩ := id X
  obtain ⟨-, -, -, -, -, ⟨-, -, gi, gc0, hg, hw, htx⟩, gm, gN⟩ := id G
  have ht : ∀ w ∈ e_tw, w.before args s = true := fun w h => hts w (hw w h)
  have hcf : CallFix p m c (e_mth P k).2.1 (e_mth P k).2.2.1 s args Ts (e_mth P k).1.cls := ⟨hx, hb, hml, hown, hts⟩
  cases sp with
  | true => cases h
  | false =>
    unfold e_sgo at h
    simp only [cond_false] at h hd
    split at h
    · next z hz =>
      have le1 := e_run_le _ _ _ _ _ _ _ h
      have kk := hS k (pc + 3) lv _ mem r mem' h hmem p e R s m args below meth c Q n0 z0 X hRf hRl hRc hRs hret
      unfold e_sb at hz
      simp only [Bool.cond_eq_ite] at hz
      split at hz
      · next q rest =>
        split at hz
        · next b hbq =>
          split at hz
          · next hc =>
            cases hz
            simp only [Bool.and_eq_true, beq_iff_eq, Nat.ble_eq] at hc
            obtain ⟨hcd, hlow, hf1, hf2⟩ := hc
            obtain ⟨i8, hi8, rfl, rfl⟩ := htx q b hbq
            rcases gm k i f hcal with ⟨-, ⟨hk, -⟩ | ⟨-, hn, wl⟩ | ⟨hk, -⟩ | ⟨hk, -⟩ | ⟨hk, -⟩ | ⟨hk, -⟩⟩ | ⟨hne, -⟩
            · rw [hk] at hcd; cases hcd
            · intro H locs cells slots ls hP hz hlo hl hc hs
              obtain ⟨adV, w, hS8, -⟩ := id hP.2
              obtain ⟨⟨cell, r1, r2, r3, -⟩, -⟩ := hS8.1 i8 hi8
              have hsum : ((rest.map (e_cv ad)).map fun v => v.category).sum ≤ 8 := by rw [e_catsum]; exact Nat.le_of_ble_eq_true hlow
              have le2 := le1.1
              have le3 := le1.2
              dsimp only at le2 le3
              exact tx_back (r := some (.int _)) (va_runV (C := "java/lang/String") (rest := rest.map (e_cv ad)) (As := []) (b := ad (1 + i8)) hcf (tx_len_met (l := l) (Ts := Ts) (ad := ad) (H0 := H) hg hw hi8) ⟨callB_of 0 hts (tx_good hg (hw _ (by decide +kernel))) rfl rfl rfl (ht _ (by decide +kernel)) (hts _ wl) ⟨by decide, by decide, by decide +kernel⟩ ⟨by show 1 + 1 ≤ _; omega, by show 8 + (1 + 11) + 20 ≤ _; omega⟩, ht _ (by decide +kernel), ht _ (by decide +kernel)⟩ ⟨tx_blind, ⟨cell, r1, r2, r3⟩, fun U hU hW => ⟨rfl, hU, hP.2.moved hW.alike⟩⟩ rfl rfl hl.1 rfl (lv_room (m := m) (pc := pc) (ls := ls) (rest := .ref (ad (1 + i8)) :: rest.map (e_cv ad)) hsum) hd ⟨by omega, by omega⟩) (kk H locs cells slots ls hP hz hlo hl hc hs)
            · rw [hk] at hcd; cases hcd
            · rw [hk] at hcd; cases hcd
            · rw [hk] at hcd; cases hcd
            · rw [hk] at hcd; cases hcd
            · exact absurd h0 hne
          · cases hz
        · cases hz
      · next j q rest =>
        split at hz
        · next b hbq =>
          split at hz
          · next x hx0 =>
            split at hz
            · next hc =>
              cases hz
              simp only [Bool.and_eq_true, beq_iff_eq, Nat.ble_eq, Bool.not_eq_true', decide_eq_false_iff_not] at hc
              obtain ⟨hcd, hj0, hlow, hf1, hf2⟩ := hc
              obtain ⟨i8, hi8, rfl, rfl⟩ := htx q b hbq
              rcases gm k i f hcal with ⟨-, ⟨hk, -⟩ | ⟨hk, -⟩ | ⟨-, hn, wl⟩ | ⟨hk, -⟩ | ⟨hk, -⟩ | ⟨hk, -⟩⟩ | ⟨hne, -⟩
              · rw [hk] at hcd; cases hcd
              · rw [hk] at hcd; cases hcd
              · intro H locs cells slots ls hP hz hlo hl hc hs
                obtain ⟨adV, w, hS8, -⟩ := id hP.2
                obtain ⟨⟨cell, r1, r2, r3, -⟩, -⟩ := hS8.1 i8 hi8
                have hsum : ((rest.map (e_cv ad)).map fun v => v.category).sum ≤ 8 := by rw [e_catsum]; exact Nat.le_of_ble_eq_true hlow
                have le2 := le1.1
                have le3 := le1.2
                dsimp only at le2 le3
                exact tx_back (r := some (.int _)) (va_runV (C := "java/lang/String") (rest := rest.map (e_cv ad)) (As := [.int j]) (b := ad (1 + i8)) hcf (tx_chr_met (l := l) (Ts := Ts) (ad := ad) (H0 := H) hg hw hi8 hj0 hx0) ⟨callB_of 1 hts (tx_good hg (hw _ (by decide +kernel))) rfl rfl rfl (ht _ (by decide +kernel)) (hts _ wl) ⟨by decide, by decide, by decide +kernel⟩ ⟨by show 3 + 1 ≤ _; omega, by show 8 + (2 + 11) + 64 ≤ _; omega⟩, ht _ (by decide +kernel), ht _ (by decide +kernel)⟩ ⟨tx_blind, ⟨cell, r1, r2, r3⟩, fun U hU hW => ⟨rfl, hU, hP.2.moved hW.alike⟩⟩ rfl rfl hl.1 rfl (lv_room (m := m) (pc := pc) (ls := ls) (rest := .int j :: .ref (ad (1 + i8)) :: rest.map (e_cv ad)) hsum) hd ⟨by omega, by omega⟩) (kk H locs cells slots ls hP hz hlo hl hc hs)
              · rw [hk] at hcd; cases hcd
              · rw [hk] at hcd; cases hcd
              · rw [hk] at hcd; cases hcd
              · exact absurd h0 hne
            · cases hz
          · cases hz
        · cases hz
      · cases hz
    · cases h
end TXT
