/-! WHICH ACT TELLS MOST -/
def g_wc (w : Int32) (O : Int → Int) (i : Int) : Nat → Int × Int
  | 0 => (0, 0)
  | m + 1 => if g_hb w (m : Int) = 0 then g_wc w O i m else if g_hb (Int32.ofInt (O (m : Int))) i = 0 then ((g_wc w O i m).1, (g_wc w O i m).2 + 1) else ((g_wc w O i m).1 + 1, (g_wc w O i m).2)
section WC
variable {w : Int32} {O O' : Int → Int} {i k a b a' b' : Int}
theorem g_wc_1 (k0 : 0 ≤ k) : g_wc w O i (k + 1).toNat = if g_hb w k = 0 then g_wc w O i k.toNat else if g_hb (Int32.ofInt (O k)) i = 0 then ((g_wc w O i k.toNat).1, (g_wc w O i k.toNat).2 + 1) else ((g_wc w O i k.toNat).1 + 1, (g_wc w O i k.toNat).2) := by
  rw [show (k + 1).toNat = k.toNat + 1 by omega]
  show (if g_hb w ((k.toNat : Nat) : Int) = 0 then g_wc w O i k.toNat else if g_hb (Int32.ofInt (O ((k.toNat : Nat) : Int))) i = 0 then ((g_wc w O i k.toNat).1, (g_wc w O i k.toNat).2 + 1) else ((g_wc w O i k.toNat).1 + 1, (g_wc w O i k.toNat).2)) = _
  rw [show ((k.toNat : Nat) : Int) = k by omega]
theorem g_wc_s (h : (a, b) = g_wc w O i k.toNat) (k0 : 0 ≤ k) (hc : (g_hb w k = 0 ∧ a' = a ∧ b' = b) ∨ (¬ g_hb w k = 0 ∧ ¬ g_hb (Int32.ofInt (O k)) i = 0 ∧ a' = a + 1 ∧ b' = b) ∨ (¬ g_hb w k = 0 ∧ g_hb (Int32.ofInt (O k)) i = 0 ∧ a' = a ∧ b' = b + 1)) : (a', b') = g_wc w O i (k + 1).toNat := by
  rw [g_wc_1 k0, ← h]
  rcases hc with ⟨c, d, e⟩ | ⟨c, c2, d, e⟩ | ⟨c, c2, d, e⟩
  · rw [if_pos c, d, e]
  · rw [if_neg c, if_neg c2, d, e]
  · rw [if_neg c, if_pos c2, d, e]
theorem g_wc_a (h : a = (g_wc w O i k.toNat).1) (k0 : 0 ≤ k) (hc : (¬ g_hb w k = 1 ∧ a' = a) ∨ (g_hb w k = 1 ∧ a' = a + g_hb (Int32.ofInt (O k)) i)) : a' = (g_wc w O i (k + 1).toNat).1 := by
  have r1 := g_hb_r w k
  have r2 := g_hb_r (Int32.ofInt (O k)) i
  rw [g_wc_1 k0]
  rcases hc with ⟨c, d⟩ | ⟨c, d⟩
  · rw [if_pos (by omega), d, h]
  · rw [if_neg (by omega)]
    by_cases c2 : g_hb (Int32.ofInt (O k)) i = 0
    · rw [if_pos c2]
      show a' = (g_wc w O i k.toNat).1
      omega
    · rw [if_neg c2]
      show a' = (g_wc w O i k.toNat).1 + 1
      omega
theorem g_wc_b : ∀ m : Nat, (g_wc w O i m).1 + (g_wc w O i m).2 = g_bn8 w m
  | 0 => rfl
  | m + 1 => by
    have z := g_wc_b m
    have r := g_hb_r w (m : Int)
    show (if g_hb w (m : Int) = 0 then g_wc w O i m else if g_hb (Int32.ofInt (O (m : Int))) i = 0 then ((g_wc w O i m).1, (g_wc w O i m).2 + 1) else ((g_wc w O i m).1 + 1, (g_wc w O i m).2)).1 + (if g_hb w (m : Int) = 0 then g_wc w O i m else if g_hb (Int32.ofInt (O (m : Int))) i = 0 then ((g_wc w O i m).1, (g_wc w O i m).2 + 1) else ((g_wc w O i m).1 + 1, (g_wc w O i m).2)).2 = g_bn8 w m + g_hb w (m : Int)
    by_cases c : g_hb w (m : Int) = 0
    · rw [if_pos c, c]
      omega
    · rw [if_neg c]
      by_cases c2 : g_hb (Int32.ofInt (O (m : Int))) i = 0
      · rw [if_pos c2]
        show (g_wc w O i m).1 + ((g_wc w O i m).2 + 1) = _
        omega
      · rw [if_neg c2]
        show ((g_wc w O i m).1 + 1) + (g_wc w O i m).2 = _
        omega
theorem g_wc_e : ∀ m : Nat, (∀ k : Int, 0 ≤ k → k < m → ¬ g_hb w k = 0 → O k = O' k) → g_wc w O i m = g_wc w O' i m
  | 0, _ => rfl
  | m + 1, h => by
    show (if g_hb w (m : Int) = 0 then g_wc w O i m else if g_hb (Int32.ofInt (O (m : Int))) i = 0 then ((g_wc w O i m).1, (g_wc w O i m).2 + 1) else ((g_wc w O i m).1 + 1, (g_wc w O i m).2)) = (if g_hb w (m : Int) = 0 then g_wc w O' i m else if g_hb (Int32.ofInt (O' (m : Int))) i = 0 then ((g_wc w O' i m).1, (g_wc w O' i m).2 + 1) else ((g_wc w O' i m).1 + 1, (g_wc w O' i m).2))
    rw [g_wc_e m (fun k a b => h k a (by omega))]
    by_cases c : g_hb w (m : Int) = 0
    · rw [if_pos c, if_pos c]
    · rw [if_neg c, if_neg c, h (m : Int) (by omega) (by omega) c]
end WC
def g_wo (w : Int32) (O : Int → Int) (i : Int) : Int := if (g_wc w O i 7).1 < (g_wc w O i 7).2 then (g_wc w O i 7).2 else (g_wc w O i 7).1
def g_wr (w : Int32) (O : Int → Int) (i : Int) : Int := if g_bn8 w 8 - (g_wc w O i 7).1 < (g_wc w O i 7).1 then (g_wc w O i 7).1 else g_bn8 w 8 - (g_wc w O i 7).1
theorem g_wo_of {w : Int32} {O : Int → Int} {i a b z : Int} (h : (a, b) = g_wc w O i 7) (hz : (a < b ∧ z = b) ∨ (b ≤ a ∧ z = a)) : z = g_wo w O i := by
  unfold g_wo
  rw [← h]
  show z = if a < b then b else a
  rcases hz with c | c
  · rw [if_pos c.1, c.2]
  · rw [if_neg (by omega), c.2]
theorem g_wr_of {w : Int32} {O : Int → Int} {i a t z : Int} (h : a = (g_wc w O i 7).1) (ht : t = g_bn8 w 8) (hz : (t - a < a ∧ z = a) ∨ (a ≤ t - a ∧ z = t - a)) : z = g_wr w O i := by
  unfold g_wr
  rw [← h, ← ht]
  rcases hz with c | c
  · rw [if_pos c.1, c.2]
  · rw [if_neg (by omega), c.2]
theorem g_wo_wr {w : Int32} {O O' : Int → Int} {i : Int} (h7 : g_hb w 7 = 0) (h : ∀ k : Int, 0 ≤ k → k < 7 → ¬ g_hb w k = 0 → O k = O' k) : g_wo w O i = g_wr w O' i := by
  have e := g_wc_e (i := i) 7 (fun k a b => h k a (by omega))
  have s := g_wc_b (w := w) (O := O') (i := i) 7
  have b : g_bn8 w 8 = g_bn8 w 7 + g_hb w ((7 : Nat) : Int) := rfl
  have b7 : g_hb w ((7 : Nat) : Int) = 0 := h7
  unfold g_wo g_wr
  rw [e]
  generalize (g_wc w O' i 7).1 = x at *
  generalize (g_wc w O' i 7).2 = y at *
  rw [show g_bn8 w 8 = x + y by omega]
  by_cases c : x < y
  · rw [if_pos c, if_neg (by omega)]
    omega
  · rw [if_neg c]
    by_cases d : x + y - x < x
    · rw [if_pos d]
    · rw [if_neg d]
      omega
def g_lf (f : Int → Int) (b0 : Int) : Nat → Int × Int
  | 0 => (b0, -4)
  | m + 1 => if f (m : Int) < (g_lf f b0 m).1 then (f (m : Int), (m : Int)) else g_lf f b0 m
theorem g_lf_s {f : Int → Int} {b0 k b wh b' wh' : Int} (h : (b, wh) = g_lf f b0 k.toNat) (k0 : 0 ≤ k) (hc : (f k < b ∧ b' = f k ∧ wh' = k) ∨ (¬ f k < b ∧ b' = b ∧ wh' = wh)) : (b', wh') = g_lf f b0 (k + 1).toNat := by
  rw [show (k + 1).toNat = k.toNat + 1 by omega]
  show (b', wh') = if f ((k.toNat : Nat) : Int) < (g_lf f b0 k.toNat).1 then (f ((k.toNat : Nat) : Int), ((k.toNat : Nat) : Int)) else g_lf f b0 k.toNat
  rw [show ((k.toNat : Nat) : Int) = k by omega, ← h]
  show (b', wh') = if f k < b then (f k, k) else (b, wh)
  rcases hc with ⟨c, d, e⟩ | ⟨c, d, e⟩
  · rw [if_pos c, d, e]
  · rw [if_neg c, d, e]
theorem g_lf_e {f f' : Int → Int} {b0 : Int} (e : ∀ k, f k = f' k) (m : Nat) : g_lf f b0 m = g_lf f' b0 m := by rw [show f = f' from funext e]
def g_lo (what : Int) (P : Int × Int) : Int := if what = 0 ∨ P.2 = -4 then P.2 else P.1
theorem g_lo_of {what b wh z : Int} {P : Int × Int} (h : (b, wh) = P) (hz : ((what = 0 ∨ wh = -4) ∧ z = wh) ∨ (¬ (what = 0 ∨ wh = -4) ∧ z = b)) : z = g_lo what P := by
  subst h
  unfold g_lo
  rcases hz with c | c
  · rw [if_pos c.1]
    exact c.2
  · rw [if_neg c.1]
    exact c.2
theorem g_pb_bt {ok vd : Int → Bool} : ∀ m : Nat, m ≤ 10 → ∀ i : Nat, i < 32 → g_bt (g_pb ok vd m) i = true → i < m ∧ vd (i : Int) = true
  | 0, _, i, hi, h => by
    have z : g_bt 0 i = true := h
    rw [g_bt_0] at z
    exact Bool.noConfusion z
  | m + 1, hm, i, hi, h => by
    have z : g_bt (if (vd (m : Int) && ok (m : Int)) = true then g_or (g_pb ok vd m) (m : Int) else g_pb ok vd m) i = true := h
    by_cases c : (vd (m : Int) && ok (m : Int)) = true
    · rw [if_pos c, g_bt_gor (by omega) (by omega) hi] at z
      by_cases d : (i : Int) = (m : Int)
      · rw [Bool.and_eq_true] at c
        exact ⟨by omega, by rw [d]; exact c.1⟩
      · rw [decide_eq_false d, Bool.or_false] at z
        have y := g_pb_bt m (by omega) i hi z
        exact ⟨by omega, y.2⟩
    · rw [if_neg c] at z
      have y := g_pb_bt m (by omega) i hi z
      exact ⟨by omega, y.2⟩
theorem g_pb_hb {ok vd : Int → Bool} {m k : Int} (m10 : m ≤ 10) (k0 : 0 ≤ k) (k9 : k ≤ 9) (h : ¬ g_hb (g_pb ok vd m.toNat) k = 0) : k < m ∧ vd k = true := by
  rw [g_hb_bt k0 k9] at h
  by_cases c : g_bt (g_pb ok vd m.toNat) k.toNat = true
  · have y := g_pb_bt m.toNat (by omega) k.toNat (by omega) c
    rw [show ((k.toNat : Nat) : Int) = k by omega] at y
    exact ⟨by omega, y.2⟩
  · rw [if_neg c] at h
    exact absurd rfl h
theorem g_pb_8 {ok vd : Int → Bool} : ∀ m : Nat, m ≤ 8 → 0 ≤ (g_pb ok vd m).toInt ∧ (g_pb ok vd m).toInt ≤ 255
  | 0, _ => by
    show 0 ≤ (0 : Int32).toInt ∧ (0 : Int32).toInt ≤ 255
    decide
  | m + 1, h => by
    have z := g_pb_8 (ok := ok) (vd := vd) m (by omega)
    show 0 ≤ (if (vd (m : Int) && ok (m : Int)) = true then g_or (g_pb ok vd m) (m : Int) else g_pb ok vd m).toInt ∧ (if (vd (m : Int) && ok (m : Int)) = true then g_or (g_pb ok vd m) (m : Int) else g_pb ok vd m).toInt ≤ 255
    by_cases c : (vd (m : Int) && ok (m : Int)) = true
    · rw [if_pos c]
      exact g_or_8 z ⟨by omega, by omega⟩
    · rw [if_neg c]
      exact z
set_option maxHeartbeats 100000000 in
theorem n_left_l (ns : Nat) (σ : h_S) (hI : h_I σ) (x0 : Int32) (a0 : Int) (hx0 : x0.toInt = a0) (x1 : Int32) (a1 : Int) (hx1 : x1.toInt = a1) {Q : Option Value → h_S → Prop} (kk : ∀ (r : Int32) (b : Int) (hb : r.toInt = b), (0 ≤ b ∧ b ≤ 7) → (b = g_wo x0 (σ 97) a1) → Q (some (.int r)) σ) : ∀ n : Nat, (∀ (y3 : Int32) (b3 : Int), y3.toInt = b3 → (0 ≤ b3 ∧ b3 ≤ 8) → ∀ (y4 : Int32) (b4 : Int), y4.toInt = b4 → (0 ≤ b4 ∧ b4 ≤ 8) → ∀ (y5 : Int32) (b5 : Int), y5.toInt = b5 → (0 ≤ b5 ∧ b5 ≤ 7) → ((b3, b4) = g_wc x0 (σ 97) a1 b5.toNat) → (b5 ≤ 7) → (0 ≤ b3 ∧ b3 ≤ b5 ∧ 0 ≤ b4 ∧ b4 ≤ b5) → (7 + 1 - b5) * 1000000 + 1000000000 ≤ (n : Int) → h_T g_P (g_Y ns) 136 8 [(0, .ref 9), (1, .int x0), (2, .int x1), (3, .int y3), (4, .int y4), (5, .int y5)] [] σ Q) := by
  intro n
  induction n with
  | zero => exact by intro  y3 b3 hy3 ry3 y4 b4 hy4 ry4 y5 b5 hy5 ry5 ex0 ex1 ex2 hm; exfalso; omega
  | succ n ih =>
    intro  y3 b3 hy3 ry3 y4 b4 hy4 ry4 y5 b5 hy5 ry5 ex0 ex1 ex2 hm
    refine h_iload (pc' := 10) rfl rfl rfl ?_
    refine h_bipush (pc' := 12) (x := (Int32.ofInt 6)) rfl rfl cb_6 ?_
    refine h_cgt (tg := 53) (pc' := 15) rfl rfl rfl hy5 ci_6 (fun c1 => ?_) (fun c1 => ?_)
    · refine h_iload_n (pc' := 54) rfl rfl rfl ?_
      refine h_iload (pc' := 56) rfl rfl rfl ?_
      refine h_max (pc' := 59) rfl rfl rfl rfl rfl hy3 hy4 (fun z2 hz2 => ?_)
      exact h_iret rfl rfl (kk _ _ rfl (by omega) (by rw [show b5 = 7 by omega] at ex0; exact g_wo_of ex0 (by omega)))
    · refine h_iload_n (pc' := 16) rfl rfl rfl ?_
      refine h_iload (pc' := 18) rfl rfl rfl ?_
      refine h_calls (pc' := 21) (M := [(0, .int x0), (1, .int y5)]) rfl rfl rfl rfl rfl rfl ?_
      refine h_iload_n (pc' := 1) rfl rfl rfl ?_
      refine h_iload_n (pc' := 2) rfl rfl rfl ?_
      refine h_ishr (pc' := 3) rfl rfl (fun z3 hz3 => ?_)
      refine h_iconst (pc' := 4) (x := (Int32.ofInt 1)) rfl rfl rfl ?_
      refine h_iand (pc' := 5) rfl rfl (fun z4 hz4 uz4 vz4 => ?_)
      clear uz4
      rw [ci_1] at vz4
      have yz4 := vz4 (by omega)
      refine h_zeq (tg := 12) (pc' := 8) rfl rfl rfl rfl (fun c5 => ?_) (fun c5 => ?_)
      · refine h_iconst (pc' := 13) (x := (Int32.ofInt 0)) rfl rfl rfl ?_
        refine h_zret rfl rfl ci_0 (by omega) (h_Kv ?_)
        refine h_zeq (tg := 47) (pc' := 24) rfl rfl rfl ci_0 (fun c6 => ?_) (fun c6 => absurd c6 (by omega))
        refine h_iinc (pc' := 50) (M := fun z7 => [(5, .int z7), (0, .ref 9), (1, .int x0), (2, .int x1), (3, .int y3), (4, .int y4)]) rfl rfl rfl rfl hy5 ci_1 rfl (by omega) (by omega) (fun _ => rfl) (fun z7 hz7 => ?_)
        refine h_goto (pc' := 8) rfl rfl ?_
        exact h_wk [(0, .ref 9), (1, .int x0), (2, .int x1), (3, .int y3), (4, .int y4), (5, .int z7)] ⟨rfl, rfl, rfl, rfl, rfl, rfl, trivial⟩ (ih y3 _ hy3 (by omega) y4 _ hy4 (by omega) z7 _ hz7 (by omega) (by have gz := g_hb_of hz4 hz3 hy5; exact g_wc_s ex0 (by omega) (by omega)) (by omega) (by omega) (by omega))
      · refine h_iconst (pc' := 9) (x := (Int32.ofInt 1)) rfl rfl rfl ?_
        refine h_goto (pc' := 13) rfl rfl ?_
        refine h_zret rfl rfl ci_1 (by omega) (h_Kv ?_)
        refine h_zeq (tg := 47) (pc' := 24) rfl rfl rfl ci_1 (fun c8 => absurd c8 (by omega)) (fun c8 => ?_)
        refine h_aload_n (pc' := 25) rfl rfl rfl ?_
        refine h_getR (pc' := 28) rfl rfl rfl rfl rfl ?_
        refine h_iload (pc' := 30) rfl rfl rfl ?_
        refine h_iald (pc' := 31) (v := σ 97 b5) rfl rfl rfl hy5 (by omega) (by omega) rfl (fun z9 hz9 => ?_)
        have tz9 := ty_97 hI b5
        refine h_iload_n (pc' := 32) rfl rfl rfl ?_
        refine h_calls (pc' := 35) (M := [(0, .int z9), (1, .int x1)]) rfl rfl rfl rfl rfl rfl ?_
        refine h_iload_n (pc' := 1) rfl rfl rfl ?_
        refine h_iload_n (pc' := 2) rfl rfl rfl ?_
        refine h_ishr (pc' := 3) rfl rfl (fun z10 hz10 => ?_)
        refine h_iconst (pc' := 4) (x := (Int32.ofInt 1)) rfl rfl rfl ?_
        refine h_iand (pc' := 5) rfl rfl (fun z11 hz11 uz11 vz11 => ?_)
        clear uz11
        rw [ci_1] at vz11
        have yz11 := vz11 (by omega)
        refine h_zeq (tg := 12) (pc' := 8) rfl rfl rfl rfl (fun c12 => ?_) (fun c12 => ?_)
        · refine h_iconst (pc' := 13) (x := (Int32.ofInt 0)) rfl rfl rfl ?_
          refine h_zret rfl rfl ci_0 (by omega) (h_Kv ?_)
          refine h_zeq (tg := 44) (pc' := 38) rfl rfl rfl ci_0 (fun c13 => ?_) (fun c13 => absurd c13 (by omega))
          refine h_iinc (pc' := 47) (M := fun z14 => [(4, .int z14), (0, .ref 9), (1, .int x0), (2, .int x1), (3, .int y3), (5, .int y5)]) rfl rfl rfl rfl hy4 ci_1 rfl (by omega) (by omega) (fun _ => rfl) (fun z14 hz14 => ?_)
          refine h_iinc (pc' := 50) (M := fun z15 => [(5, .int z15), (4, .int z14), (0, .ref 9), (1, .int x0), (2, .int x1), (3, .int y3)]) rfl rfl rfl rfl hy5 ci_1 rfl (by omega) (by omega) (fun _ => rfl) (fun z15 hz15 => ?_)
          refine h_goto (pc' := 8) rfl rfl ?_
          exact h_wk [(0, .ref 9), (1, .int x0), (2, .int x1), (3, .int y3), (4, .int z14), (5, .int z15)] ⟨rfl, rfl, rfl, rfl, rfl, rfl, trivial⟩ (ih y3 _ hy3 (by omega) z14 _ hz14 (by omega) z15 _ hz15 (by omega) (by have gz := g_hb_of hz4 hz3 hy5; have gy := g_hb_oi hz11 hz10 hx1 hz9; exact g_wc_s ex0 (by omega) (by omega)) (by omega) (by omega) (by omega))
        · refine h_iconst (pc' := 9) (x := (Int32.ofInt 1)) rfl rfl rfl ?_
          refine h_goto (pc' := 13) rfl rfl ?_
          refine h_zret rfl rfl ci_1 (by omega) (h_Kv ?_)
          refine h_zeq (tg := 44) (pc' := 38) rfl rfl rfl ci_1 (fun c16 => absurd c16 (by omega)) (fun c16 => ?_)
          refine h_iinc (pc' := 41) (M := fun z17 => [(3, .int z17), (0, .ref 9), (1, .int x0), (2, .int x1), (4, .int y4), (5, .int y5)]) rfl rfl rfl rfl hy3 ci_1 rfl (by omega) (by omega) (fun _ => rfl) (fun z17 hz17 => ?_)
          refine h_goto (pc' := 47) rfl rfl ?_
          refine h_iinc (pc' := 50) (M := fun z18 => [(5, .int z18), (3, .int z17), (0, .ref 9), (1, .int x0), (2, .int x1), (4, .int y4)]) rfl rfl rfl rfl hy5 ci_1 rfl (by omega) (by omega) (fun _ => rfl) (fun z18 hz18 => ?_)
          refine h_goto (pc' := 8) rfl rfl ?_
          exact h_wk [(0, .ref 9), (1, .int x0), (2, .int x1), (3, .int z17), (4, .int y4), (5, .int z18)] ⟨rfl, rfl, rfl, rfl, rfl, rfl, trivial⟩ (ih z17 _ hz17 (by omega) y4 _ hy4 (by omega) z18 _ hz18 (by omega) (by have gz := g_hb_of hz4 hz3 hy5; have gy := g_hb_oi hz11 hz10 hx1 hz9; exact g_wc_s ex0 (by omega) (by omega)) (by omega) (by omega) (by omega))
set_option maxHeartbeats 100000000 in
theorem n_left {ns : Nat} (σ : h_S) (hI : h_I σ) (x0 : Int32) (a0 : Int) (hx0 : x0.toInt = a0) (x1 : Int32) (a1 : Int) (hx1 : x1.toInt = a1) {Q : Option Value → h_S → Prop} (kk : ∀ (r : Int32) (b : Int) (hb : r.toInt = b), (0 ≤ b ∧ b ≤ 7) → (b = g_wo x0 (σ 97) a1) → Q (some (.int r)) σ) : h_T g_P (g_Y ns) 136 0 [(0, .ref 9), (1, .int x0), (2, .int x1)] [] σ Q := by
  refine h_iconst (pc' := 1) (x := (Int32.ofInt 0)) rfl rfl rfl ?_
  refine h_istore_n (pc' := 2) (M := [(3, .int (Int32.ofInt 0)), (0, .ref 9), (1, .int x0), (2, .int x1)]) rfl rfl rfl rfl ?_
  refine h_iconst (pc' := 3) (x := (Int32.ofInt 0)) rfl rfl rfl ?_
  refine h_istore (pc' := 5) (M := [(4, .int (Int32.ofInt 0)), (3, .int (Int32.ofInt 0)), (0, .ref 9), (1, .int x0), (2, .int x1)]) rfl rfl rfl rfl ?_
  refine h_iconst (pc' := 6) (x := (Int32.ofInt 0)) rfl rfl rfl ?_
  refine h_istore (pc' := 8) (M := [(5, .int (Int32.ofInt 0)), (4, .int (Int32.ofInt 0)), (3, .int (Int32.ofInt 0)), (0, .ref 9), (1, .int x0), (2, .int x1)]) rfl rfl rfl rfl ?_
  exact h_wk [(0, .ref 9), (1, .int x0), (2, .int x1), (3, .int (Int32.ofInt 0)), (4, .int (Int32.ofInt 0)), (5, .int (Int32.ofInt 0))] ⟨rfl, rfl, rfl, rfl, rfl, rfl, trivial⟩ ((n_left_l ns σ hI x0 a0 hx0 x1 a1 hx1 kk 1000000000000) (Int32.ofInt 0) _ ci_0 (by omega) (Int32.ofInt 0) _ ci_0 (by omega) (Int32.ofInt 0) _ ci_0 (by omega) rfl (by omega) (by omega) (by omega))
def kf_n_lookX : List Nat := [23560, 23561, 23562, 25599, 26623, 26626, 28671, 29695, 29698, 31743, 32767, 33791, 34815, 35839, 36863, 80898, 82943, 83967, 83970, 86015, 87039, 100351]
set_option maxHeartbeats 100000000 in
set_option maxHeartbeats 100000000 in
theorem n_lookX_l (ns : Nat) (σ : h_S) (hI : h_I σ) (x0 : Int32) (a0 : Int) (hx0 : x0.toInt = a0) (x1 : Int32) (a1 : Int) (hx1 : x1.toInt = a1) (pr0 : g_lk' (σ 10 8) (σ 10 9) (σ 20)) (pr1 : ∀ i, 0 ≤ i → i < σ 10 10 → 0 ≤ σ 22 i ∧ σ 22 i / 10 < σ 10 8 ∧ σ 22 i % 10 < σ 10 9) {Q : Option Value → h_S → Prop} (kk : ∀ (r : Int32) (b : Int) (hb : r.toInt = b) (τ : h_S), h_I τ → h_F (k_in kf_n_lookX) τ σ → ((-4) ≤ b ∧ b ≤ 63) → ((¬ (0 ≤ a0 ∧ a0 < σ 10 8 ∧ (a1 = 0 ∨ a1 = 1)) ∧ b = -1) ∨ ((0 ≤ a0 ∧ a0 < σ 10 8 ∧ (a1 = 0 ∨ a1 = 1)) ∧ ∃ (w : Int32) (O : Int → Int), g_iv (fun k w => g_oX a0 (-100) σ (if k = 6 then -4 else k) w ∧ O k = w.toInt) (fun k => decide (k < a0 ∨ k = 6)) (fun w => g_ag (σ 91) (σ 92) w (σ 90 2).toNat) 7 w ∧ b = g_lo a1 (g_lf (g_wo w O) (g_bc w).toInt (σ 10 10).toNat))) → Q (some (.int r)) τ) : ∀ n : Nat, (∀ (s0 : h_S), h_I s0 → h_F (k_in kf_n_lookX) s0 σ → ∀ (y3 : Int32) (b3 : Int), y3.toInt = b3 → ∀ (y4 : Int32) (b4 : Int), y4.toInt = b4 → (0 ≤ b4 ∧ b4 ≤ 63) → ∀ (y5 : Int32) (b5 : Int), y5.toInt = b5 → ((-4) ≤ b5 ∧ b5 ≤ 7) → ∀ (y6 : Int32) (b6 : Int), y6.toInt = b6 → (0 ≤ b6 ∧ b6 ≤ 8) → (0 ≤ a0 ∧ a0 < σ 10 8 ∧ (a1 = 0 ∨ a1 = 1)) → (g_iv (fun k w => g_oX a0 (-100) σ (if k = 6 then -4 else k) w ∧ s0 97 k = w.toInt) (fun k => decide (k < a0 ∨ k = 6)) (fun w => g_ag (σ 91) (σ 92) w (σ 90 2).toNat) 7 y3) → ((b4, b5) = g_lf (g_wo y3 (s0 97)) (g_bc y3).toInt b6.toNat) → (b6 ≤ σ 10 10) → (8 + 1 - b6) * 1000000 + 1000000000 ≤ (n : Int) → h_T g_P (g_Y ns) 114 39 [(0, .ref 9), (1, .int x0), (2, .int x1), (3, .int y3), (4, .int y4), (5, .int y5), (6, .int y6)] [] s0 Q) := by
  intro n
  induction n with
  | zero => exact by intro s0 I0 F0_ y3 b3 hy3 y4 b4 hy4 ry4 y5 b5 hy5 ry5 y6 b6 hy6 ry6 ex0 ex1 ex2 ex3 hm; have gh0 := F0_ 10 10 rfl; have gh1 := tf_10_10 hI; exfalso; omega
  | succ n ih =>
    intro s0 I0 F0_ y3 b3 hy3 y4 b4 hy4 ry4 y5 b5 hy5 ry5 y6 b6 hy6 ry6 ex0 ex1 ex2 ex3 hm; have gh0 := F0_ 10 10 rfl; have gh1 := tf_10_10 hI
    refine h_iload (pc' := 41) rfl rfl rfl ?_
    refine h_aload_n (pc' := 42) rfl rfl rfl ?_
    refine h_getR (pc' := 45) rfl rfl rfl rfl rfl ?_
    refine h_getI (pc' := 48) (v := σ 10 10) rfl rfl rfl rfl rfl (F0_ 10 10 rfl) (fun z1 hz1 => ?_)
    have tz1 := tf_10_10 hI
    refine h_cge (tg := 81) (pc' := 51) rfl rfl rfl hy6 hz1 (fun c2 => ?_) (fun c2 => ?_)
    · refine h_iload_n (pc' := 82) rfl rfl rfl ?_
      refine h_zeq (tg := 92) (pc' := 85) rfl rfl rfl hx1 (fun c3 => ?_) (fun c3 => ?_)
      · refine h_iload (pc' := 94) rfl rfl rfl ?_
        refine h_goto (pc' := 99) rfl rfl ?_
        exact h_iret rfl rfl (kk _ _ hy5 _ I0 F0_ (by omega) (Or.inr ⟨by omega, y3, s0 97, ex1, by rw [show b6 = σ 10 10 by omega] at ex2; exact g_lo_of ex2 (by omega)⟩))
      · refine h_iload (pc' := 87) rfl rfl rfl ?_
        refine h_bipush (pc' := 89) (x := (Int32.ofInt (-4))) rfl rfl cb_m4 ?_
        refine h_cne (tg := 97) (pc' := 92) rfl rfl rfl hy5 ci_m4 (fun c4 => ?_) (fun c4 => ?_)
        · refine h_iload (pc' := 99) rfl rfl rfl ?_
          exact h_iret rfl rfl (kk _ _ hy4 _ I0 F0_ (by omega) (Or.inr ⟨by omega, y3, s0 97, ex1, by rw [show b6 = σ 10 10 by omega] at ex2; exact g_lo_of ex2 (by omega)⟩))
        · refine h_iload (pc' := 94) rfl rfl rfl ?_
          refine h_goto (pc' := 99) rfl rfl ?_
          exact h_iret rfl rfl (kk _ _ hy5 _ I0 F0_ (by omega) (Or.inr ⟨by omega, y3, s0 97, ex1, by rw [show b6 = σ 10 10 by omega] at ex2; exact g_lo_of ex2 (by omega)⟩))
    · refine h_aload_n (pc' := 52) rfl rfl rfl ?_
      refine h_iload_n (pc' := 53) rfl rfl rfl ?_
      refine h_iload (pc' := 55) rfl rfl rfl ?_
      refine h_call (sp := false) (pc' := 58) (M := [(0, .ref 9), (1, .int y3), (2, .int y6)]) rfl rfl rfl rfl rfl rfl rfl rfl ?_
      refine n_left _ I0 y3 _ hy3 y6 _ hy6 (fun r5 br5 hr5 tr5 ps6_0 => h_Kv ?_)
      refine h_istore (pc' := 60) (M := [(7, .int r5), (0, .ref 9), (1, .int x0), (2, .int x1), (3, .int y3), (4, .int y4), (5, .int y5), (6, .int y6)]) rfl rfl rfl rfl ?_
      refine h_iload (pc' := 62) rfl rfl rfl ?_
      refine h_iload (pc' := 64) rfl rfl rfl ?_
      refine h_cge (tg := 75) (pc' := 67) rfl rfl rfl hr5 hy4 (fun c7 => ?_) (fun c7 => ?_)
      · refine h_iinc (pc' := 78) (M := fun z8 => [(6, .int z8), (7, .int r5), (0, .ref 9), (1, .int x0), (2, .int x1), (3, .int y3), (4, .int y4), (5, .int y5)]) rfl rfl rfl rfl hy6 ci_1 rfl (by omega) (by omega) (fun _ => rfl) (fun z8 hz8 => ?_)
        refine h_goto (pc' := 39) rfl rfl ?_
        exact h_wk [(0, .ref 9), (1, .int x0), (2, .int x1), (3, .int y3), (4, .int y4), (5, .int y5), (6, .int z8)] ⟨rfl, rfl, rfl, rfl, rfl, rfl, rfl, trivial⟩ (ih _ I0 F0_ y3 _ hy3 y4 _ hy4 (by omega) y5 _ hy5 (by omega) z8 _ hz8 (by omega) (by omega) ex1 (by have gl := ps6_0; exact g_lf_s ex2 (by omega) (by omega)) (by omega) (by omega))
      · refine h_iload (pc' := 69) rfl rfl rfl ?_
        refine h_istore (pc' := 71) (M := [(4, .int r5), (7, .int r5), (0, .ref 9), (1, .int x0), (2, .int x1), (3, .int y3), (5, .int y5), (6, .int y6)]) rfl rfl rfl rfl ?_
        refine h_iload (pc' := 73) rfl rfl rfl ?_
        refine h_istore (pc' := 75) (M := [(5, .int y6), (4, .int r5), (7, .int r5), (0, .ref 9), (1, .int x0), (2, .int x1), (3, .int y3), (6, .int y6)]) rfl rfl rfl rfl ?_
        refine h_iinc (pc' := 78) (M := fun z9 => [(6, .int z9), (5, .int y6), (4, .int r5), (7, .int r5), (0, .ref 9), (1, .int x0), (2, .int x1), (3, .int y3)]) rfl rfl rfl rfl hy6 ci_1 rfl (by omega) (by omega) (fun _ => rfl) (fun z9 hz9 => ?_)
        refine h_goto (pc' := 39) rfl rfl ?_
        exact h_wk [(0, .ref 9), (1, .int x0), (2, .int x1), (3, .int y3), (4, .int r5), (5, .int y6), (6, .int z9)] ⟨rfl, rfl, rfl, rfl, rfl, rfl, rfl, trivial⟩ (ih _ I0 F0_ y3 _ hy3 r5 _ hr5 (by omega) y6 _ hy6 (by omega) z9 _ hz9 (by omega) (by omega) ex1 (by have gl := ps6_0; exact g_lf_s ex2 (by omega) (by omega)) (by omega) (by omega))
set_option maxHeartbeats 100000000 in
set_option maxHeartbeats 100000000 in
theorem n_lookX {ns : Nat} (σ : h_S) (hI : h_I σ) (x0 : Int32) (a0 : Int) (hx0 : x0.toInt = a0) (x1 : Int32) (a1 : Int) (hx1 : x1.toInt = a1) (pr0 : g_lk' (σ 10 8) (σ 10 9) (σ 20)) (pr1 : ∀ i, 0 ≤ i → i < σ 10 10 → 0 ≤ σ 22 i ∧ σ 22 i / 10 < σ 10 8 ∧ σ 22 i % 10 < σ 10 9) {Q : Option Value → h_S → Prop} (kk : ∀ (r : Int32) (b : Int) (hb : r.toInt = b) (τ : h_S), h_I τ → h_F (k_in kf_n_lookX) τ σ → ((-4) ≤ b ∧ b ≤ 63) → ((¬ (0 ≤ a0 ∧ a0 < σ 10 8 ∧ (a1 = 0 ∨ a1 = 1)) ∧ b = -1) ∨ ((0 ≤ a0 ∧ a0 < σ 10 8 ∧ (a1 = 0 ∨ a1 = 1)) ∧ ∃ (w : Int32) (O : Int → Int), g_iv (fun k w => g_oX a0 (-100) σ (if k = 6 then -4 else k) w ∧ O k = w.toInt) (fun k => decide (k < a0 ∨ k = 6)) (fun w => g_ag (σ 91) (σ 92) w (σ 90 2).toNat) 7 w ∧ b = g_lo a1 (g_lf (g_wo w O) (g_bc w).toInt (σ 10 10).toNat))) → Q (some (.int r)) τ) : h_T g_P (g_Y ns) 114 0 [(0, .ref 9), (1, .int x0), (2, .int x1)] [] σ Q := by
  have F00 : h_F (k_in kf_n_lookX) σ σ := h_F.rf
  have ge0 := tf_10_8 hI
  have ge1 := tf_10_10 hI
  refine h_aload_n (pc' := 1) rfl rfl rfl ?_
  refine h_getR (pc' := 4) rfl rfl rfl rfl rfl ?_
  refine h_iload_n (pc' := 5) rfl rfl rfl ?_
  refine h_call (sp := false) (pc' := 8) (M := [(0, .ref 10), (1, .int x0)]) rfl rfl rfl rfl rfl rfl rfl rfl ?_
  refine h_iload_n (pc' := 1) rfl rfl rfl ?_
  refine h_zlt (tg := 16) (pc' := 4) rfl rfl rfl hx0 (fun c1 => ?_) (fun c1 => ?_)
  · refine h_iconst (pc' := 17) (x := (Int32.ofInt 0)) rfl rfl rfl ?_
    refine h_zret rfl rfl ci_0 (by omega) (h_Kv ?_)
    refine h_zeq (tg := 18) (pc' := 11) rfl rfl rfl ci_0 (fun c2 => ?_) (fun c2 => absurd c2 (by omega))
    refine h_iconst (pc' := 19) (x := (Int32.ofInt (-1))) rfl rfl rfl ?_
    exact h_iret rfl rfl (kk _ _ ci_m1 _ hI F00 (by omega) (Or.inl ⟨by omega, rfl⟩))
  · refine h_iload_n (pc' := 5) rfl rfl rfl ?_
    refine h_aload_n (pc' := 6) rfl rfl rfl ?_
    refine h_getI (pc' := 9) (v := σ 10 8) rfl rfl rfl rfl rfl rfl (fun z3 hz3 => ?_)
    have tz3 := tf_10_8 hI
    refine h_cge (tg := 16) (pc' := 12) rfl rfl rfl hx0 hz3 (fun c4 => ?_) (fun c4 => ?_)
    · refine h_iconst (pc' := 17) (x := (Int32.ofInt 0)) rfl rfl rfl ?_
      refine h_zret rfl rfl ci_0 (by omega) (h_Kv ?_)
      refine h_zeq (tg := 18) (pc' := 11) rfl rfl rfl ci_0 (fun c5 => ?_) (fun c5 => absurd c5 (by omega))
      refine h_iconst (pc' := 19) (x := (Int32.ofInt (-1))) rfl rfl rfl ?_
      exact h_iret rfl rfl (kk _ _ ci_m1 _ hI F00 (by omega) (Or.inl ⟨by omega, rfl⟩))
    · refine h_iconst (pc' := 13) (x := (Int32.ofInt 1)) rfl rfl rfl ?_
      refine h_goto (pc' := 17) rfl rfl ?_
      refine h_zret rfl rfl ci_1 (by omega) (h_Kv ?_)
      refine h_zeq (tg := 18) (pc' := 11) rfl rfl rfl ci_1 (fun c6 => absurd c6 (by omega)) (fun c6 => ?_)
      refine h_iload_n (pc' := 12) rfl rfl rfl ?_
      refine h_calls (pc' := 15) (M := [(0, .int x1)]) rfl rfl rfl rfl rfl rfl ?_
      refine h_iload_n (pc' := 1) rfl rfl rfl ?_
      refine h_zeq (tg := 9) (pc' := 4) rfl rfl rfl hx1 (fun c7 => ?_) (fun c7 => ?_)
      · refine h_iconst (pc' := 10) (x := (Int32.ofInt 1)) rfl rfl rfl ?_
        refine h_goto (pc' := 14) rfl rfl ?_
        refine h_zret rfl rfl ci_1 (by omega) (h_Kv ?_)
        refine h_zne (tg := 20) (pc' := 18) rfl rfl rfl ci_1 (fun c8 => ?_) (fun c8 => absurd c8 (by omega))
        refine h_aload_n (pc' := 21) rfl rfl rfl ?_
        refine h_iload_n (pc' := 22) rfl rfl rfl ?_
        refine h_call (sp := false) (pc' := 25) (M := [(0, .ref 9), (1, .int x0)]) rfl rfl rfl rfl rfl rfl rfl rfl ?_
        refine n_tryX _ hI x0 _ hx0 (by omega) pr0 pr1 (fun r9 br9 hr9 s10 Is10 Gs10 ps10_0 ps10_1 => h_Kv ?_)
        have Fs10 := (Gs10.mono (B := kf_n_lookX) rfl).tr F00
        have es10_0 : s10 98 13 = σ 98 13 := (Gs10 98 13 rfl).trans rfl
        refine h_istore_n (pc' := 26) (M := [(3, .int r9), (0, .ref 9), (1, .int x0), (2, .int x1)]) rfl rfl rfl rfl ?_
        refine h_iload_n (pc' := 27) rfl rfl rfl ?_
        refine h_calls (pc' := 30) (M := [(0, .int r9)]) rfl rfl rfl rfl rfl rfl ?_
        refine n_bc _ Is10 r9 _ hr9 (fun r11 br11 hr11 tr11 ps12_0 => h_Kv ?_)
        refine h_istore (pc' := 32) (M := [(4, .int r11), (3, .int r9), (0, .ref 9), (1, .int x0), (2, .int x1)]) rfl rfl rfl rfl ?_
        refine h_bipush (pc' := 34) (x := (Int32.ofInt (-4))) rfl rfl cb_m4 ?_
        refine h_istore (pc' := 36) (M := [(5, .int (Int32.ofInt (-4))), (4, .int r11), (3, .int r9), (0, .ref 9), (1, .int x0), (2, .int x1)]) rfl rfl rfl rfl ?_
        refine h_iconst (pc' := 37) (x := (Int32.ofInt 0)) rfl rfl rfl ?_
        refine h_istore (pc' := 39) (M := [(6, .int (Int32.ofInt 0)), (5, .int (Int32.ofInt (-4))), (4, .int r11), (3, .int r9), (0, .ref 9), (1, .int x0), (2, .int x1)]) rfl rfl rfl rfl ?_
        exact h_wk [(0, .ref 9), (1, .int x0), (2, .int x1), (3, .int r9), (4, .int r11), (5, .int (Int32.ofInt (-4))), (6, .int (Int32.ofInt 0))] ⟨rfl, rfl, rfl, rfl, rfl, rfl, rfl, trivial⟩ ((n_lookX_l ns σ hI x0 a0 hx0 x1 a1 hx1 pr0 pr1 kk 1000000000000) _ Is10 Fs10 r9 _ hr9 r11 _ hr11 (by omega) (Int32.ofInt (-4)) _ ci_m4 (by omega) (Int32.ofInt 0) _ ci_0 (by omega) (by omega) ps10_0 (by rw [show br11 = _ from (hr11.symm.trans (congrArg Int32.toInt ps12_0))]; rfl) (by omega) (by omega))
      · refine h_iload_n (pc' := 5) rfl rfl rfl ?_
        refine h_iconst (pc' := 6) (x := (Int32.ofInt 1)) rfl rfl rfl ?_
        refine h_cne (tg := 13) (pc' := 9) rfl rfl rfl hx1 ci_1 (fun c13 => ?_) (fun c13 => ?_)
        · refine h_iconst (pc' := 14) (x := (Int32.ofInt 0)) rfl rfl rfl ?_
          refine h_zret rfl rfl ci_0 (by omega) (h_Kv ?_)
          refine h_zne (tg := 20) (pc' := 18) rfl rfl rfl ci_0 (fun c14 => absurd c14 (by omega)) (fun c14 => ?_)
          refine h_iconst (pc' := 19) (x := (Int32.ofInt (-1))) rfl rfl rfl ?_
          exact h_iret rfl rfl (kk _ _ ci_m1 _ hI F00 (by omega) (Or.inl ⟨by omega, rfl⟩))
        · refine h_iconst (pc' := 10) (x := (Int32.ofInt 1)) rfl rfl rfl ?_
          refine h_goto (pc' := 14) rfl rfl ?_
          refine h_zret rfl rfl ci_1 (by omega) (h_Kv ?_)
          refine h_zne (tg := 20) (pc' := 18) rfl rfl rfl ci_1 (fun c15 => ?_) (fun c15 => absurd c15 (by omega))
          refine h_aload_n (pc' := 21) rfl rfl rfl ?_
          refine h_iload_n (pc' := 22) rfl rfl rfl ?_
          refine h_call (sp := false) (pc' := 25) (M := [(0, .ref 9), (1, .int x0)]) rfl rfl rfl rfl rfl rfl rfl rfl ?_
          refine n_tryX _ hI x0 _ hx0 (by omega) pr0 pr1 (fun r16 br16 hr16 s17 Is17 Gs17 ps17_0 ps17_1 => h_Kv ?_)
          have Fs17 := (Gs17.mono (B := kf_n_lookX) rfl).tr F00
          have es17_0 : s17 98 13 = σ 98 13 := (Gs17 98 13 rfl).trans rfl
          refine h_istore_n (pc' := 26) (M := [(3, .int r16), (0, .ref 9), (1, .int x0), (2, .int x1)]) rfl rfl rfl rfl ?_
          refine h_iload_n (pc' := 27) rfl rfl rfl ?_
          refine h_calls (pc' := 30) (M := [(0, .int r16)]) rfl rfl rfl rfl rfl rfl ?_
          refine n_bc _ Is17 r16 _ hr16 (fun r18 br18 hr18 tr18 ps19_0 => h_Kv ?_)
          refine h_istore (pc' := 32) (M := [(4, .int r18), (3, .int r16), (0, .ref 9), (1, .int x0), (2, .int x1)]) rfl rfl rfl rfl ?_
          refine h_bipush (pc' := 34) (x := (Int32.ofInt (-4))) rfl rfl cb_m4 ?_
          refine h_istore (pc' := 36) (M := [(5, .int (Int32.ofInt (-4))), (4, .int r18), (3, .int r16), (0, .ref 9), (1, .int x0), (2, .int x1)]) rfl rfl rfl rfl ?_
          refine h_iconst (pc' := 37) (x := (Int32.ofInt 0)) rfl rfl rfl ?_
          refine h_istore (pc' := 39) (M := [(6, .int (Int32.ofInt 0)), (5, .int (Int32.ofInt (-4))), (4, .int r18), (3, .int r16), (0, .ref 9), (1, .int x0), (2, .int x1)]) rfl rfl rfl rfl ?_
          exact h_wk [(0, .ref 9), (1, .int x0), (2, .int x1), (3, .int r16), (4, .int r18), (5, .int (Int32.ofInt (-4))), (6, .int (Int32.ofInt 0))] ⟨rfl, rfl, rfl, rfl, rfl, rfl, rfl, trivial⟩ ((n_lookX_l ns σ hI x0 a0 hx0 x1 a1 hx1 pr0 pr1 kk 1000000000000) _ Is17 Fs17 r16 _ hr16 r18 _ hr18 (by omega) (Int32.ofInt (-4)) _ ci_m4 (by omega) (Int32.ofInt 0) _ ci_0 (by omega) (by omega) ps17_0 (by rw [show br18 = _ from (hr18.symm.trans (congrArg Int32.toInt ps19_0))]; rfl) (by omega) (by omega))
def kf_n_lookM : List Nat := [100374, 100375, 101891, 101892, 108543, 112639]
set_option maxHeartbeats 100000000 in
set_option maxHeartbeats 100000000 in
theorem n_lookM_l (ns : Nat) (σ : h_S) (hI : h_I σ) (x0 : Int32) (a0 : Int) (hx0 : x0.toInt = a0) (x1 : Int32) (a1 : Int) (hx1 : x1.toInt = a1) (pr0 : ∀ i, 0 ≤ i → i < σ 99 43 → 0 ≤ σ 99 (35 + i) ∧ σ 99 (35 + i) / 10 < 6 ∧ σ 99 (35 + i) % 10 < 3) {Q : Option Value → h_S → Prop} (kk : ∀ (r : Int32) (b : Int) (hb : r.toInt = b) (τ : h_S), h_I τ → h_F (k_in kf_n_lookM) τ σ → (b ≤ 8) → ((¬ (0 ≤ a0 ∧ a0 < σ 98 1 ∧ (a1 = 0 ∨ a1 = 1)) ∧ b = -1) ∨ ((0 ≤ a0 ∧ a0 < σ 98 1 ∧ (a1 = 0 ∨ a1 = 1)) ∧ ∃ (w : Int32) (O : Int → Int), g_iv (fun k w => g_oM a0 (-100) σ (if k = 6 then 0 else k + 1) w ∧ O k = w.toInt) (fun k => decide (k < a0 ∨ k = 6)) (fun w => g_ag (fun k => σ 108 (2 * k)) (fun k => σ 108 (2 * k + 1)) w (σ 98 29).toNat) 7 w ∧ b = g_lo a1 (g_lf (g_wr w O) (g_bn8 w 8) (σ 99 43).toNat))) → Q (some (.int r)) τ) : ∀ n : Nat, (∀ (s0 : h_S), h_I s0 → h_F (k_in kf_n_lookM) s0 σ → ∀ (y3 : Int32) (b3 : Int), y3.toInt = b3 → ∀ (y4 : Int32) (b4 : Int), y4.toInt = b4 → (0 ≤ b4 ∧ b4 ≤ 8) → ∀ (y5 : Int32) (b5 : Int), y5.toInt = b5 → (b5 ≤ 8) → ∀ (y6 : Int32) (b6 : Int), y6.toInt = b6 → ((-4) ≤ b6 ∧ b6 ≤ 7) → ∀ (y7 : Int32) (b7 : Int), y7.toInt = b7 → (0 ≤ b7 ∧ b7 ≤ 8) → (0 ≤ a0 ∧ a0 < σ 98 1 ∧ (a1 = 0 ∨ a1 = 1)) → (g_iv (fun k w => g_oM a0 (-100) σ (if k = 6 then 0 else k + 1) w ∧ s0 109 k = w.toInt) (fun k => decide (k < a0 ∨ k = 6)) (fun w => g_ag (fun k => σ 108 (2 * k)) (fun k => σ 108 (2 * k + 1)) w (σ 98 29).toNat) 7 y3) → (b4 = g_bn8 y3 8) → ((b5, b6) = g_lf (g_wr y3 (s0 109)) (g_bn8 y3 8) b7.toNat) → (b7 ≤ σ 99 43) → (0 ≤ b4 ∧ b4 ≤ 8) → (8 + 1 - b7) * 1000000 + 1000000000 ≤ (n : Int) → h_T g_P (g_Y ns) 215 43 [(0, .ref 98), (1, .int x0), (2, .int x1), (3, .int y3), (4, .int y4), (5, .int y5), (6, .int y6), (7, .int y7)] [] s0 Q) ∧ (∀ (s0 : h_S), h_I s0 → h_F (k_in kf_n_lookM) s0 σ → ∀ (y3 : Int32) (b3 : Int), y3.toInt = b3 → ∀ (y4 : Int32) (b4 : Int), y4.toInt = b4 → (0 ≤ b4 ∧ b4 ≤ 8) → ∀ (y5 : Int32) (b5 : Int), y5.toInt = b5 → (b5 ≤ 8) → ∀ (y6 : Int32) (b6 : Int), y6.toInt = b6 → ((-4) ≤ b6 ∧ b6 ≤ 7) → ∀ (y7 : Int32) (b7 : Int), y7.toInt = b7 → (0 ≤ b7 ∧ b7 ≤ 7) → ∀ (y8 : Int32) (b8 : Int), y8.toInt = b8 → (0 ≤ b8 ∧ b8 ≤ 8) → ∀ (y9 : Int32) (b9 : Int), y9.toInt = b9 → (0 ≤ b9 ∧ b9 ≤ 7) → (0 ≤ a0 ∧ a0 < σ 98 1 ∧ (a1 = 0 ∨ a1 = 1)) → (g_iv (fun k w => g_oM a0 (-100) σ (if k = 6 then 0 else k + 1) w ∧ s0 109 k = w.toInt) (fun k => decide (k < a0 ∨ k = 6)) (fun w => g_ag (fun k => σ 108 (2 * k)) (fun k => σ 108 (2 * k + 1)) w (σ 98 29).toNat) 7 y3) → (b4 = g_bn8 y3 8) → ((b5, b6) = g_lf (g_wr y3 (s0 109)) (g_bn8 y3 8) b7.toNat) → (b7 < σ 99 43) → (b8 = (g_wc y3 (s0 109) b7 b9.toNat).1) → (b9 ≤ 7) → (0 ≤ b4 ∧ b4 ≤ 8) → (0 ≤ b8 ∧ b8 ≤ b9) → ((8 + 1 - b7) - 1) * 1000000 + 1000000000 + (7 + 1 - b9) * 1000 + 100000 ≤ (n : Int) → h_T g_P (g_Y ns) 215 61 [(0, .ref 98), (1, .int x0), (2, .int x1), (3, .int y3), (4, .int y4), (5, .int y5), (6, .int y6), (7, .int y7), (8, .int y8), (9, .int y9)] [] s0 Q) := by
  intro n
  induction n with
  | zero => exact ⟨by intro s0 I0 F0_ y3 b3 hy3 y4 b4 hy4 ry4 y5 b5 hy5 ry5 y6 b6 hy6 ry6 y7 b7 hy7 ry7 ex0 ex1 ex2 ex3 ex4 ex5 hm; have gy5 := h_rgv hy5; have gh0 := F0_.no (q := 99) (l := 0) (u := 131) (j := 43) rfl (by omega) (by omega); have gh1 := ty_99_10 hI 43 (by omega); exfalso; omega, by intro s0 I0 F0_ y3 b3 hy3 y4 b4 hy4 ry4 y5 b5 hy5 ry5 y6 b6 hy6 ry6 y7 b7 hy7 ry7 y8 b8 hy8 ry8 y9 b9 hy9 ry9 ex0 ex1 ex2 ex3 ex4 ex5 ex6 ex7 ex8 hm; have gy5 := h_rgv hy5; have gh0 := F0_.no (q := 99) (l := 0) (u := 131) (j := 43) rfl (by omega) (by omega); have gh1 := ty_99_10 hI 43 (by omega); exfalso; omega⟩
  | succ n ih =>
    refine ⟨?_, ?_⟩
    · intro s0 I0 F0_ y3 b3 hy3 y4 b4 hy4 ry4 y5 b5 hy5 ry5 y6 b6 hy6 ry6 y7 b7 hy7 ry7 ex0 ex1 ex2 ex3 ex4 ex5 hm; have gy5 := h_rgv hy5; have gh0 := F0_.no (q := 99) (l := 0) (u := 131) (j := 43) rfl (by omega) (by omega); have gh1 := ty_99_10 hI 43 (by omega)
      refine h_iload (pc' := 45) rfl rfl rfl ?_
      refine h_aload_n (pc' := 46) rfl rfl rfl ?_
      refine h_getR (pc' := 49) rfl rfl rfl rfl rfl ?_
      refine h_bipush (pc' := 51) (x := (Int32.ofInt 43)) rfl rfl cb_43 ?_
      refine h_iald (pc' := 52) (v := σ 99 43) rfl rfl rfl ci_43 (by omega) (by omega) (F0_ 99 _ (k_no (l := 43) (h := 43) rfl (by omega) (by omega))) (fun z1 hz1 => ?_)
      have tz1 := ty_99_10 hI 43 (by omega)
      refine h_cge (tg := 165) (pc' := 55) rfl rfl rfl hy7 hz1 (fun c2 => ?_) (fun c2 => ?_)
      · refine h_iload (pc' := 167) rfl rfl rfl ?_
        refine h_bipush (pc' := 169) (x := (Int32.ofInt (-4))) rfl rfl cb_m4 ?_
        refine h_ceq (tg := 176) (pc' := 172) rfl rfl rfl hy6 ci_m4 (fun c3 => ?_) (fun c3 => ?_)
        · refine h_iload (pc' := 178) rfl rfl rfl ?_
          refine h_goto (pc' := 183) rfl rfl ?_
          exact h_iret rfl rfl (kk _ _ hy6 _ I0 F0_ (by omega) (Or.inr ⟨by omega, y3, s0 109, ex1, by rw [show b7 = σ 99 43 by omega] at ex3; exact g_lo_of ex3 (by omega)⟩))
        · refine h_iload_n (pc' := 173) rfl rfl rfl ?_
          refine h_zne (tg := 181) (pc' := 176) rfl rfl rfl hx1 (fun c4 => ?_) (fun c4 => ?_)
          · refine h_iload (pc' := 183) rfl rfl rfl ?_
            exact h_iret rfl rfl (kk _ _ hy5 _ I0 F0_ (by omega) (Or.inr ⟨by omega, y3, s0 109, ex1, by rw [show b7 = σ 99 43 by omega] at ex3; exact g_lo_of ex3 (by omega)⟩))
          · refine h_iload (pc' := 178) rfl rfl rfl ?_
            refine h_goto (pc' := 183) rfl rfl ?_
            exact h_iret rfl rfl (kk _ _ hy6 _ I0 F0_ (by omega) (Or.inr ⟨by omega, y3, s0 109, ex1, by rw [show b7 = σ 99 43 by omega] at ex3; exact g_lo_of ex3 (by omega)⟩))
      · refine h_iconst (pc' := 56) (x := (Int32.ofInt 0)) rfl rfl rfl ?_
        refine h_istore (pc' := 58) (M := [(8, .int (Int32.ofInt 0)), (0, .ref 98), (1, .int x0), (2, .int x1), (3, .int y3), (4, .int y4), (5, .int y5), (6, .int y6), (7, .int y7)]) rfl rfl rfl rfl ?_
        refine h_iconst (pc' := 59) (x := (Int32.ofInt 0)) rfl rfl rfl ?_
        refine h_istore (pc' := 61) (M := [(9, .int (Int32.ofInt 0)), (8, .int (Int32.ofInt 0)), (0, .ref 98), (1, .int x0), (2, .int x1), (3, .int y3), (4, .int y4), (5, .int y5), (6, .int y6), (7, .int y7)]) rfl rfl rfl rfl ?_
        exact h_wk [(0, .ref 98), (1, .int x0), (2, .int x1), (3, .int y3), (4, .int y4), (5, .int y5), (6, .int y6), (7, .int y7), (8, .int (Int32.ofInt 0)), (9, .int (Int32.ofInt 0))] ⟨rfl, rfl, rfl, rfl, rfl, rfl, rfl, rfl, rfl, rfl, trivial⟩ (ih.2 _ I0 F0_ y3 _ hy3 y4 _ hy4 (by omega) y5 _ hy5 (by omega) y6 _ hy6 (by omega) y7 _ hy7 (by omega) (Int32.ofInt 0) _ ci_0 (by omega) (Int32.ofInt 0) _ ci_0 (by omega) (by omega) ex1 ex2 ex3 (by omega) rfl (by omega) (by omega) (by omega) (by omega))
    · intro s0 I0 F0_ y3 b3 hy3 y4 b4 hy4 ry4 y5 b5 hy5 ry5 y6 b6 hy6 ry6 y7 b7 hy7 ry7 y8 b8 hy8 ry8 y9 b9 hy9 ry9 ex0 ex1 ex2 ex3 ex4 ex5 ex6 ex7 ex8 hm; have gy5 := h_rgv hy5; have gh0 := F0_.no (q := 99) (l := 0) (u := 131) (j := 43) rfl (by omega) (by omega); have gh1 := ty_99_10 hI 43 (by omega)
      refine h_iload (pc' := 63) rfl rfl rfl ?_
      refine h_bipush (pc' := 65) (x := (Int32.ofInt 6)) rfl rfl cb_6 ?_
      refine h_cgt (tg := 105) (pc' := 68) rfl rfl rfl hy9 ci_6 (fun c1 => ?_) (fun c1 => ?_)
      · refine h_iload (pc' := 107) rfl rfl rfl ?_
        refine h_iload (pc' := 109) rfl rfl rfl ?_
        refine h_iload (pc' := 111) rfl rfl rfl ?_
        refine h_isub (pc' := 112) rfl rfl hy4 hy8 rfl (by omega) (by omega) (fun z2 hz2 => ?_)
        refine h_cle (tg := 120) (pc' := 115) rfl rfl rfl hy8 hz2 (fun c3 => ?_) (fun c3 => ?_)
        · refine h_iload (pc' := 122) rfl rfl rfl ?_
          refine h_iload (pc' := 124) rfl rfl rfl ?_
          refine h_isub (pc' := 125) rfl rfl hy4 hy8 rfl (by omega) (by omega) (fun z4 hz4 => ?_)
          refine h_istore (pc' := 127) (M := [(9, .int z4), (0, .ref 98), (1, .int x0), (2, .int x1), (3, .int y3), (4, .int y4), (5, .int y5), (6, .int y6), (7, .int y7), (8, .int y8)]) rfl rfl rfl rfl ?_
          refine h_iload (pc' := 129) rfl rfl rfl ?_
          refine h_iload (pc' := 131) rfl rfl rfl ?_
          refine h_cge (tg := 139) (pc' := 134) rfl rfl rfl hz4 hy5 (fun c5 => ?_) (fun c5 => ?_)
          · refine h_iload (pc' := 141) rfl rfl rfl ?_
            refine h_istore (pc' := 143) (M := [(6, .int y6), (9, .int z4), (0, .ref 98), (1, .int x0), (2, .int x1), (3, .int y3), (4, .int y4), (5, .int y5), (7, .int y7), (8, .int y8)]) rfl rfl rfl rfl ?_
            refine h_iload (pc' := 145) rfl rfl rfl ?_
            refine h_iload (pc' := 147) rfl rfl rfl ?_
            refine h_cge (tg := 155) (pc' := 150) rfl rfl rfl hz4 hy5 (fun c6 => ?_) (fun c6 => ?_)
            · refine h_iload (pc' := 157) rfl rfl rfl ?_
              refine h_istore (pc' := 159) (M := [(5, .int y5), (6, .int y6), (9, .int z4), (0, .ref 98), (1, .int x0), (2, .int x1), (3, .int y3), (4, .int y4), (7, .int y7), (8, .int y8)]) rfl rfl rfl rfl ?_
              refine h_iinc (pc' := 162) (M := fun z7 => [(7, .int z7), (5, .int y5), (6, .int y6), (9, .int z4), (0, .ref 98), (1, .int x0), (2, .int x1), (3, .int y3), (4, .int y4), (8, .int y8)]) rfl rfl rfl rfl hy7 ci_1 rfl (by omega) (by omega) (fun _ => rfl) (fun z7 hz7 => ?_)
              refine h_goto (pc' := 43) rfl rfl ?_
              exact h_wk [(0, .ref 98), (1, .int x0), (2, .int x1), (3, .int y3), (4, .int y4), (5, .int y5), (6, .int y6), (7, .int z7)] ⟨rfl, rfl, rfl, rfl, rfl, rfl, rfl, rfl, trivial⟩ (ih.1 _ I0 F0_ y3 _ hy3 y4 _ hy4 (by omega) y5 _ hy5 (by omega) y6 _ hy6 (by omega) z7 _ hz7 (by omega) (by omega) ex1 ex2 (by have gt := ex5; rw [show b9 = 7 by omega] at gt; have gr := g_wr_of gt ex2 (z := (b4 - b8)) (by omega); exact g_lf_s ex3 (by omega) (by rw [← gr]; omega)) (by omega) (by omega) (by omega))
            · refine h_iload (pc' := 152) rfl rfl rfl ?_
              refine h_goto (pc' := 157) rfl rfl ?_
              refine h_istore (pc' := 159) (M := [(5, .int z4), (6, .int y6), (9, .int z4), (0, .ref 98), (1, .int x0), (2, .int x1), (3, .int y3), (4, .int y4), (7, .int y7), (8, .int y8)]) rfl rfl rfl rfl ?_
              refine h_iinc (pc' := 162) (M := fun z8 => [(7, .int z8), (5, .int z4), (6, .int y6), (9, .int z4), (0, .ref 98), (1, .int x0), (2, .int x1), (3, .int y3), (4, .int y4), (8, .int y8)]) rfl rfl rfl rfl hy7 ci_1 rfl (by omega) (by omega) (fun _ => rfl) (fun z8 hz8 => ?_)
              refine h_goto (pc' := 43) rfl rfl ?_
              exact h_wk [(0, .ref 98), (1, .int x0), (2, .int x1), (3, .int y3), (4, .int y4), (5, .int z4), (6, .int y6), (7, .int z8)] ⟨rfl, rfl, rfl, rfl, rfl, rfl, rfl, rfl, trivial⟩ (ih.1 _ I0 F0_ y3 _ hy3 y4 _ hy4 (by omega) z4 _ hz4 (by omega) y6 _ hy6 (by omega) z8 _ hz8 (by omega) (by omega) ex1 ex2 (by have gt := ex5; rw [show b9 = 7 by omega] at gt; have gr := g_wr_of gt ex2 (z := (b4 - b8)) (by omega); exact g_lf_s ex3 (by omega) (by rw [← gr]; omega)) (by omega) (by omega) (by omega))
          · refine h_iload (pc' := 136) rfl rfl rfl ?_
            refine h_goto (pc' := 141) rfl rfl ?_
            refine h_istore (pc' := 143) (M := [(6, .int y7), (9, .int z4), (0, .ref 98), (1, .int x0), (2, .int x1), (3, .int y3), (4, .int y4), (5, .int y5), (7, .int y7), (8, .int y8)]) rfl rfl rfl rfl ?_
            refine h_iload (pc' := 145) rfl rfl rfl ?_
            refine h_iload (pc' := 147) rfl rfl rfl ?_
            refine h_cge (tg := 155) (pc' := 150) rfl rfl rfl hz4 hy5 (fun c9 => ?_) (fun c9 => ?_)
            · refine h_iload (pc' := 157) rfl rfl rfl ?_
              refine h_istore (pc' := 159) (M := [(5, .int y5), (6, .int y7), (9, .int z4), (0, .ref 98), (1, .int x0), (2, .int x1), (3, .int y3), (4, .int y4), (7, .int y7), (8, .int y8)]) rfl rfl rfl rfl ?_
              refine h_iinc (pc' := 162) (M := fun z10 => [(7, .int z10), (5, .int y5), (6, .int y7), (9, .int z4), (0, .ref 98), (1, .int x0), (2, .int x1), (3, .int y3), (4, .int y4), (8, .int y8)]) rfl rfl rfl rfl hy7 ci_1 rfl (by omega) (by omega) (fun _ => rfl) (fun z10 hz10 => ?_)
              refine h_goto (pc' := 43) rfl rfl ?_
              exact h_wk [(0, .ref 98), (1, .int x0), (2, .int x1), (3, .int y3), (4, .int y4), (5, .int y5), (6, .int y7), (7, .int z10)] ⟨rfl, rfl, rfl, rfl, rfl, rfl, rfl, rfl, trivial⟩ (ih.1 _ I0 F0_ y3 _ hy3 y4 _ hy4 (by omega) y5 _ hy5 (by omega) y7 _ hy7 (by omega) z10 _ hz10 (by omega) (by omega) ex1 ex2 (by have gt := ex5; rw [show b9 = 7 by omega] at gt; have gr := g_wr_of gt ex2 (z := (b4 - b8)) (by omega); exact g_lf_s ex3 (by omega) (by rw [← gr]; omega)) (by omega) (by omega) (by omega))
            · refine h_iload (pc' := 152) rfl rfl rfl ?_
              refine h_goto (pc' := 157) rfl rfl ?_
              refine h_istore (pc' := 159) (M := [(5, .int z4), (6, .int y7), (9, .int z4), (0, .ref 98), (1, .int x0), (2, .int x1), (3, .int y3), (4, .int y4), (7, .int y7), (8, .int y8)]) rfl rfl rfl rfl ?_
              refine h_iinc (pc' := 162) (M := fun z11 => [(7, .int z11), (5, .int z4), (6, .int y7), (9, .int z4), (0, .ref 98), (1, .int x0), (2, .int x1), (3, .int y3), (4, .int y4), (8, .int y8)]) rfl rfl rfl rfl hy7 ci_1 rfl (by omega) (by omega) (fun _ => rfl) (fun z11 hz11 => ?_)
              refine h_goto (pc' := 43) rfl rfl ?_
              exact h_wk [(0, .ref 98), (1, .int x0), (2, .int x1), (3, .int y3), (4, .int y4), (5, .int z4), (6, .int y7), (7, .int z11)] ⟨rfl, rfl, rfl, rfl, rfl, rfl, rfl, rfl, trivial⟩ (ih.1 _ I0 F0_ y3 _ hy3 y4 _ hy4 (by omega) z4 _ hz4 (by omega) y7 _ hy7 (by omega) z11 _ hz11 (by omega) (by omega) ex1 ex2 (by have gt := ex5; rw [show b9 = 7 by omega] at gt; have gr := g_wr_of gt ex2 (z := (b4 - b8)) (by omega); exact g_lf_s ex3 (by omega) (by rw [← gr]; omega)) (by omega) (by omega) (by omega))
        · refine h_iload (pc' := 117) rfl rfl rfl ?_
          refine h_goto (pc' := 125) rfl rfl ?_
          refine h_istore (pc' := 127) (M := [(9, .int y8), (0, .ref 98), (1, .int x0), (2, .int x1), (3, .int y3), (4, .int y4), (5, .int y5), (6, .int y6), (7, .int y7), (8, .int y8)]) rfl rfl rfl rfl ?_
          refine h_iload (pc' := 129) rfl rfl rfl ?_
          refine h_iload (pc' := 131) rfl rfl rfl ?_
          refine h_cge (tg := 139) (pc' := 134) rfl rfl rfl hy8 hy5 (fun c12 => ?_) (fun c12 => ?_)
          · refine h_iload (pc' := 141) rfl rfl rfl ?_
            refine h_istore (pc' := 143) (M := [(6, .int y6), (9, .int y8), (0, .ref 98), (1, .int x0), (2, .int x1), (3, .int y3), (4, .int y4), (5, .int y5), (7, .int y7), (8, .int y8)]) rfl rfl rfl rfl ?_
            refine h_iload (pc' := 145) rfl rfl rfl ?_
            refine h_iload (pc' := 147) rfl rfl rfl ?_
            refine h_cge (tg := 155) (pc' := 150) rfl rfl rfl hy8 hy5 (fun c13 => ?_) (fun c13 => ?_)
            · refine h_iload (pc' := 157) rfl rfl rfl ?_
              refine h_istore (pc' := 159) (M := [(5, .int y5), (6, .int y6), (9, .int y8), (0, .ref 98), (1, .int x0), (2, .int x1), (3, .int y3), (4, .int y4), (7, .int y7), (8, .int y8)]) rfl rfl rfl rfl ?_
              refine h_iinc (pc' := 162) (M := fun z14 => [(7, .int z14), (5, .int y5), (6, .int y6), (9, .int y8), (0, .ref 98), (1, .int x0), (2, .int x1), (3, .int y3), (4, .int y4), (8, .int y8)]) rfl rfl rfl rfl hy7 ci_1 rfl (by omega) (by omega) (fun _ => rfl) (fun z14 hz14 => ?_)
              refine h_goto (pc' := 43) rfl rfl ?_
              exact h_wk [(0, .ref 98), (1, .int x0), (2, .int x1), (3, .int y3), (4, .int y4), (5, .int y5), (6, .int y6), (7, .int z14)] ⟨rfl, rfl, rfl, rfl, rfl, rfl, rfl, rfl, trivial⟩ (ih.1 _ I0 F0_ y3 _ hy3 y4 _ hy4 (by omega) y5 _ hy5 (by omega) y6 _ hy6 (by omega) z14 _ hz14 (by omega) (by omega) ex1 ex2 (by have gt := ex5; rw [show b9 = 7 by omega] at gt; have gr := g_wr_of gt ex2 (z := b8) (by omega); exact g_lf_s ex3 (by omega) (by rw [← gr]; omega)) (by omega) (by omega) (by omega))
            · refine h_iload (pc' := 152) rfl rfl rfl ?_
              refine h_goto (pc' := 157) rfl rfl ?_
              refine h_istore (pc' := 159) (M := [(5, .int y8), (6, .int y6), (9, .int y8), (0, .ref 98), (1, .int x0), (2, .int x1), (3, .int y3), (4, .int y4), (7, .int y7), (8, .int y8)]) rfl rfl rfl rfl ?_
              refine h_iinc (pc' := 162) (M := fun z15 => [(7, .int z15), (5, .int y8), (6, .int y6), (9, .int y8), (0, .ref 98), (1, .int x0), (2, .int x1), (3, .int y3), (4, .int y4), (8, .int y8)]) rfl rfl rfl rfl hy7 ci_1 rfl (by omega) (by omega) (fun _ => rfl) (fun z15 hz15 => ?_)
              refine h_goto (pc' := 43) rfl rfl ?_
              exact h_wk [(0, .ref 98), (1, .int x0), (2, .int x1), (3, .int y3), (4, .int y4), (5, .int y8), (6, .int y6), (7, .int z15)] ⟨rfl, rfl, rfl, rfl, rfl, rfl, rfl, rfl, trivial⟩ (ih.1 _ I0 F0_ y3 _ hy3 y4 _ hy4 (by omega) y8 _ hy8 (by omega) y6 _ hy6 (by omega) z15 _ hz15 (by omega) (by omega) ex1 ex2 (by have gt := ex5; rw [show b9 = 7 by omega] at gt; have gr := g_wr_of gt ex2 (z := b8) (by omega); exact g_lf_s ex3 (by omega) (by rw [← gr]; omega)) (by omega) (by omega) (by omega))
          · refine h_iload (pc' := 136) rfl rfl rfl ?_
            refine h_goto (pc' := 141) rfl rfl ?_
            refine h_istore (pc' := 143) (M := [(6, .int y7), (9, .int y8), (0, .ref 98), (1, .int x0), (2, .int x1), (3, .int y3), (4, .int y4), (5, .int y5), (7, .int y7), (8, .int y8)]) rfl rfl rfl rfl ?_
            refine h_iload (pc' := 145) rfl rfl rfl ?_
            refine h_iload (pc' := 147) rfl rfl rfl ?_
            refine h_cge (tg := 155) (pc' := 150) rfl rfl rfl hy8 hy5 (fun c16 => ?_) (fun c16 => ?_)
            · refine h_iload (pc' := 157) rfl rfl rfl ?_
              refine h_istore (pc' := 159) (M := [(5, .int y5), (6, .int y7), (9, .int y8), (0, .ref 98), (1, .int x0), (2, .int x1), (3, .int y3), (4, .int y4), (7, .int y7), (8, .int y8)]) rfl rfl rfl rfl ?_
              refine h_iinc (pc' := 162) (M := fun z17 => [(7, .int z17), (5, .int y5), (6, .int y7), (9, .int y8), (0, .ref 98), (1, .int x0), (2, .int x1), (3, .int y3), (4, .int y4), (8, .int y8)]) rfl rfl rfl rfl hy7 ci_1 rfl (by omega) (by omega) (fun _ => rfl) (fun z17 hz17 => ?_)
              refine h_goto (pc' := 43) rfl rfl ?_
              exact h_wk [(0, .ref 98), (1, .int x0), (2, .int x1), (3, .int y3), (4, .int y4), (5, .int y5), (6, .int y7), (7, .int z17)] ⟨rfl, rfl, rfl, rfl, rfl, rfl, rfl, rfl, trivial⟩ (ih.1 _ I0 F0_ y3 _ hy3 y4 _ hy4 (by omega) y5 _ hy5 (by omega) y7 _ hy7 (by omega) z17 _ hz17 (by omega) (by omega) ex1 ex2 (by have gt := ex5; rw [show b9 = 7 by omega] at gt; have gr := g_wr_of gt ex2 (z := b8) (by omega); exact g_lf_s ex3 (by omega) (by rw [← gr]; omega)) (by omega) (by omega) (by omega))
            · refine h_iload (pc' := 152) rfl rfl rfl ?_
              refine h_goto (pc' := 157) rfl rfl ?_
              refine h_istore (pc' := 159) (M := [(5, .int y8), (6, .int y7), (9, .int y8), (0, .ref 98), (1, .int x0), (2, .int x1), (3, .int y3), (4, .int y4), (7, .int y7), (8, .int y8)]) rfl rfl rfl rfl ?_
              refine h_iinc (pc' := 162) (M := fun z18 => [(7, .int z18), (5, .int y8), (6, .int y7), (9, .int y8), (0, .ref 98), (1, .int x0), (2, .int x1), (3, .int y3), (4, .int y4), (8, .int y8)]) rfl rfl rfl rfl hy7 ci_1 rfl (by omega) (by omega) (fun _ => rfl) (fun z18 hz18 => ?_)
              refine h_goto (pc' := 43) rfl rfl ?_
              exact h_wk [(0, .ref 98), (1, .int x0), (2, .int x1), (3, .int y3), (4, .int y4), (5, .int y8), (6, .int y7), (7, .int z18)] ⟨rfl, rfl, rfl, rfl, rfl, rfl, rfl, rfl, trivial⟩ (ih.1 _ I0 F0_ y3 _ hy3 y4 _ hy4 (by omega) y8 _ hy8 (by omega) y7 _ hy7 (by omega) z18 _ hz18 (by omega) (by omega) ex1 ex2 (by have gt := ex5; rw [show b9 = 7 by omega] at gt; have gr := g_wr_of gt ex2 (z := b8) (by omega); exact g_lf_s ex3 (by omega) (by rw [← gr]; omega)) (by omega) (by omega) (by omega))
      · refine h_iload (pc' := 70) rfl rfl rfl ?_
        refine h_iload_n (pc' := 71) rfl rfl rfl ?_
        refine h_iload (pc' := 73) rfl rfl rfl ?_
        refine h_ishr (pc' := 74) rfl rfl (fun z19 hz19 => ?_)
        refine h_iconst (pc' := 75) (x := (Int32.ofInt 1)) rfl rfl rfl ?_
        refine h_iand (pc' := 76) rfl rfl (fun z20 hz20 uz20 vz20 => ?_)
        clear uz20
        rw [ci_1] at vz20
        have yz20 := vz20 (by omega)
        refine h_iconst (pc' := 77) (x := (Int32.ofInt 1)) rfl rfl rfl ?_
        refine h_cne (tg := 95) (pc' := 80) rfl rfl rfl rfl ci_1 (fun c21 => ?_) (fun c21 => ?_)
        · refine h_iconst (pc' := 96) (x := (Int32.ofInt 0)) rfl rfl rfl ?_
          refine h_iadd (pc' := 97) rfl rfl hy8 ci_0 rfl (by omega) (by omega) (fun z22 hz22 => ?_)
          refine h_istore (pc' := 99) (M := [(8, .int z22), (0, .ref 98), (1, .int x0), (2, .int x1), (3, .int y3), (4, .int y4), (5, .int y5), (6, .int y6), (7, .int y7), (9, .int y9)]) rfl rfl rfl rfl ?_
          refine h_iinc (pc' := 102) (M := fun z23 => [(9, .int z23), (8, .int z22), (0, .ref 98), (1, .int x0), (2, .int x1), (3, .int y3), (4, .int y4), (5, .int y5), (6, .int y6), (7, .int y7)]) rfl rfl rfl rfl hy9 ci_1 rfl (by omega) (by omega) (fun _ => rfl) (fun z23 hz23 => ?_)
          refine h_goto (pc' := 61) rfl rfl ?_
          exact h_wk [(0, .ref 98), (1, .int x0), (2, .int x1), (3, .int y3), (4, .int y4), (5, .int y5), (6, .int y6), (7, .int y7), (8, .int z22), (9, .int z23)] ⟨rfl, rfl, rfl, rfl, rfl, rfl, rfl, rfl, rfl, rfl, trivial⟩ (ih.2 _ I0 F0_ y3 _ hy3 y4 _ hy4 (by omega) y5 _ hy5 (by omega) y6 _ hy6 (by omega) y7 _ hy7 (by omega) z22 _ hz22 (by omega) z23 _ hz23 (by omega) (by omega) ex1 ex2 ex3 (by omega) (by have gz := g_hb_of hz20 hz19 hy9; exact g_wc_a ex5 (by omega) (by omega)) (by omega) (by omega) (by omega) (by omega))
        · refine h_aload_n (pc' := 81) rfl rfl rfl ?_
          refine h_getR (pc' := 84) rfl rfl rfl rfl rfl ?_
          refine h_iload (pc' := 86) rfl rfl rfl ?_
          refine h_iald (pc' := 87) (v := s0 109 b9) rfl rfl rfl hy9 (by omega) (by omega) rfl (fun z24 hz24 => ?_)
          have tz24 := ty_109 I0 b9
          refine h_iload (pc' := 89) rfl rfl rfl ?_
          refine h_ishr (pc' := 90) rfl rfl (fun z25 hz25 => ?_)
          refine h_iconst (pc' := 91) (x := (Int32.ofInt 1)) rfl rfl rfl ?_
          refine h_iand (pc' := 92) rfl rfl (fun z26 hz26 uz26 vz26 => ?_)
          clear uz26
          rw [ci_1] at vz26
          have yz26 := vz26 (by omega)
          refine h_goto (pc' := 96) rfl rfl ?_
          refine h_iadd (pc' := 97) rfl rfl hy8 rfl rfl (by omega) (by omega) (fun z27 hz27 => ?_)
          refine h_istore (pc' := 99) (M := [(8, .int z27), (0, .ref 98), (1, .int x0), (2, .int x1), (3, .int y3), (4, .int y4), (5, .int y5), (6, .int y6), (7, .int y7), (9, .int y9)]) rfl rfl rfl rfl ?_
          refine h_iinc (pc' := 102) (M := fun z28 => [(9, .int z28), (8, .int z27), (0, .ref 98), (1, .int x0), (2, .int x1), (3, .int y3), (4, .int y4), (5, .int y5), (6, .int y6), (7, .int y7)]) rfl rfl rfl rfl hy9 ci_1 rfl (by omega) (by omega) (fun _ => rfl) (fun z28 hz28 => ?_)
          refine h_goto (pc' := 61) rfl rfl ?_
          exact h_wk [(0, .ref 98), (1, .int x0), (2, .int x1), (3, .int y3), (4, .int y4), (5, .int y5), (6, .int y6), (7, .int y7), (8, .int z27), (9, .int z28)] ⟨rfl, rfl, rfl, rfl, rfl, rfl, rfl, rfl, rfl, rfl, trivial⟩ (ih.2 _ I0 F0_ y3 _ hy3 y4 _ hy4 (by omega) y5 _ hy5 (by omega) y6 _ hy6 (by omega) y7 _ hy7 (by omega) z27 _ hz27 (by omega) z28 _ hz28 (by omega) (by omega) ex1 ex2 ex3 (by omega) (by have gz := g_hb_of hz20 hz19 hy9; have gy := g_hb_oi hz26 hz25 hy7 hz24; exact g_wc_a ex5 (by omega) (by omega)) (by omega) (by omega) (by omega) (by omega))
set_option maxHeartbeats 100000000 in
set_option maxHeartbeats 100000000 in
theorem n_lookM {ns : Nat} (σ : h_S) (hI : h_I σ) (x0 : Int32) (a0 : Int) (hx0 : x0.toInt = a0) (x1 : Int32) (a1 : Int) (hx1 : x1.toInt = a1) (pr0 : ∀ i, 0 ≤ i → i < σ 99 43 → 0 ≤ σ 99 (35 + i) ∧ σ 99 (35 + i) / 10 < 6 ∧ σ 99 (35 + i) % 10 < 3) {Q : Option Value → h_S → Prop} (kk : ∀ (r : Int32) (b : Int) (hb : r.toInt = b) (τ : h_S), h_I τ → h_F (k_in kf_n_lookM) τ σ → (b ≤ 8) → ((¬ (0 ≤ a0 ∧ a0 < σ 98 1 ∧ (a1 = 0 ∨ a1 = 1)) ∧ b = -1) ∨ ((0 ≤ a0 ∧ a0 < σ 98 1 ∧ (a1 = 0 ∨ a1 = 1)) ∧ ∃ (w : Int32) (O : Int → Int), g_iv (fun k w => g_oM a0 (-100) σ (if k = 6 then 0 else k + 1) w ∧ O k = w.toInt) (fun k => decide (k < a0 ∨ k = 6)) (fun w => g_ag (fun k => σ 108 (2 * k)) (fun k => σ 108 (2 * k + 1)) w (σ 98 29).toNat) 7 w ∧ b = g_lo a1 (g_lf (g_wr w O) (g_bn8 w 8) (σ 99 43).toNat))) → Q (some (.int r)) τ) : h_T g_P (g_Y ns) 215 0 [(0, .ref 98), (1, .int x0), (2, .int x1)] [] σ Q := by
  have F00 : h_F (k_in kf_n_lookM) σ σ := h_F.rf
  have ge0 := tf_98_1 hI
  have ge1 := ty_99_10 hI 43 (by omega)
  refine h_aload_n (pc' := 1) rfl rfl rfl ?_
  refine h_iload_n (pc' := 2) rfl rfl rfl ?_
  refine h_call (sp := false) (pc' := 5) (M := [(0, .ref 98), (1, .int x0)]) rfl rfl rfl rfl rfl rfl rfl rfl ?_
  refine h_iload_n (pc' := 1) rfl rfl rfl ?_
  refine h_i2l (pc' := 2) rfl rfl hx0 (fun z1 hz1 => ?_)
  refine h_lconst (pc' := 3) (x := (Int64.ofInt 0)) rfl rfl rfl ?_
  refine h_aload_n (pc' := 4) rfl rfl rfl ?_
  refine h_getI (pc' := 7) (v := σ 98 1) rfl rfl rfl rfl rfl rfl (fun z2 hz2 => ?_)
  have tz2 := tf_98_1 hI
  refine h_iconst (pc' := 8) (x := (Int32.ofInt 1)) rfl rfl rfl ?_
  refine h_isub (pc' := 9) rfl rfl hz2 ci_1 rfl (by omega) (by omega) (fun z3 hz3 => ?_)
  refine h_i2l (pc' := 10) rfl rfl hz3 (fun z4 hz4 => ?_)
  refine h_calls (pc' := 13) (M := [(0, .long z1), (2, .long (Int64.ofInt 0)), (4, .long z4)]) rfl rfl rfl rfl rfl rfl ?_
  refine h_lload_n (pc' := 1) rfl rfl rfl ?_
  refine h_lload_n (pc' := 2) rfl rfl rfl ?_
  refine h_lcmp (pc' := 3) rfl rfl hz1 cl_0 (fun z5 hz5 => ?_)
  refine h_zlt (tg := 17) (pc' := 6) rfl rfl rfl rfl (fun c6 => ?_) (fun c6 => ?_)
  · replace c6 := (h_lcr hz5).1 c6
    clear hz5
    refine h_iconst (pc' := 18) (x := (Int32.ofInt 0)) rfl rfl rfl ?_
    refine h_zret rfl rfl ci_0 (by omega) (h_Kv ?_)
    refine h_zret rfl rfl ci_0 (by omega) (h_Kv ?_)
    refine h_zeq (tg := 18) (pc' := 8) rfl rfl rfl ci_0 (fun c7 => ?_) (fun c7 => absurd c7 (by omega))
    refine h_iconst (pc' := 19) (x := (Int32.ofInt (-1))) rfl rfl rfl ?_
    exact h_iret rfl rfl (kk _ _ ci_m1 _ hI F00 (by omega) (Or.inl ⟨by omega, rfl⟩))
  · replace c6 := (h_lcr hz5).2.1 c6
    clear hz5
    refine h_lload_n (pc' := 7) rfl rfl rfl ?_
    refine h_lload (pc' := 9) rfl rfl rfl ?_
    refine h_lcmp (pc' := 10) rfl rfl hz1 hz4 (fun z8 hz8 => ?_)
    refine h_zgt (tg := 17) (pc' := 13) rfl rfl rfl rfl (fun c9 => ?_) (fun c9 => ?_)
    · replace c9 := (h_lcr hz8).2.2.2.1 c9
      clear hz8
      refine h_iconst (pc' := 18) (x := (Int32.ofInt 0)) rfl rfl rfl ?_
      refine h_zret rfl rfl ci_0 (by omega) (h_Kv ?_)
      refine h_zret rfl rfl ci_0 (by omega) (h_Kv ?_)
      refine h_zeq (tg := 18) (pc' := 8) rfl rfl rfl ci_0 (fun c10 => ?_) (fun c10 => absurd c10 (by omega))
      refine h_iconst (pc' := 19) (x := (Int32.ofInt (-1))) rfl rfl rfl ?_
      exact h_iret rfl rfl (kk _ _ ci_m1 _ hI F00 (by omega) (Or.inl ⟨by omega, rfl⟩))
    · replace c9 := (h_lcr hz8).2.2.1 c9
      clear hz8
      refine h_iconst (pc' := 14) (x := (Int32.ofInt 1)) rfl rfl rfl ?_
      refine h_goto (pc' := 18) rfl rfl ?_
      refine h_zret rfl rfl ci_1 (by omega) (h_Kv ?_)
      refine h_zret rfl rfl ci_1 (by omega) (h_Kv ?_)
      refine h_zeq (tg := 18) (pc' := 8) rfl rfl rfl ci_1 (fun c11 => absurd c11 (by omega)) (fun c11 => ?_)
      refine h_iload_n (pc' := 9) rfl rfl rfl ?_
      refine h_i2l (pc' := 10) rfl rfl hx1 (fun z12 hz12 => ?_)
      refine h_lconst (pc' := 11) (x := (Int64.ofInt 0)) rfl rfl rfl ?_
      refine h_lconst (pc' := 12) (x := (Int64.ofInt 1)) rfl rfl rfl ?_
      refine h_calls (pc' := 15) (M := [(0, .long z12), (2, .long (Int64.ofInt 0)), (4, .long (Int64.ofInt 1))]) rfl rfl rfl rfl rfl rfl ?_
      refine h_lload_n (pc' := 1) rfl rfl rfl ?_
      refine h_lload_n (pc' := 2) rfl rfl rfl ?_
      refine h_lcmp (pc' := 3) rfl rfl hz12 cl_0 (fun z13 hz13 => ?_)
      refine h_zlt (tg := 17) (pc' := 6) rfl rfl rfl rfl (fun c14 => ?_) (fun c14 => ?_)
      · replace c14 := (h_lcr hz13).1 c14
        clear hz13
        refine h_iconst (pc' := 18) (x := (Int32.ofInt 0)) rfl rfl rfl ?_
        refine h_zret rfl rfl ci_0 (by omega) (h_Kv ?_)
        refine h_zne (tg := 20) (pc' := 18) rfl rfl rfl ci_0 (fun c15 => absurd c15 (by omega)) (fun c15 => ?_)
        refine h_iconst (pc' := 19) (x := (Int32.ofInt (-1))) rfl rfl rfl ?_
        exact h_iret rfl rfl (kk _ _ ci_m1 _ hI F00 (by omega) (Or.inl ⟨by omega, rfl⟩))
      · replace c14 := (h_lcr hz13).2.1 c14
        clear hz13
        refine h_lload_n (pc' := 7) rfl rfl rfl ?_
        refine h_lload (pc' := 9) rfl rfl rfl ?_
        refine h_lcmp (pc' := 10) rfl rfl hz12 cl_1 (fun z16 hz16 => ?_)
        refine h_zgt (tg := 17) (pc' := 13) rfl rfl rfl rfl (fun c17 => ?_) (fun c17 => ?_)
        · replace c17 := (h_lcr hz16).2.2.2.1 c17
          clear hz16
          refine h_iconst (pc' := 18) (x := (Int32.ofInt 0)) rfl rfl rfl ?_
          refine h_zret rfl rfl ci_0 (by omega) (h_Kv ?_)
          refine h_zne (tg := 20) (pc' := 18) rfl rfl rfl ci_0 (fun c18 => absurd c18 (by omega)) (fun c18 => ?_)
          refine h_iconst (pc' := 19) (x := (Int32.ofInt (-1))) rfl rfl rfl ?_
          exact h_iret rfl rfl (kk _ _ ci_m1 _ hI F00 (by omega) (Or.inl ⟨by omega, rfl⟩))
        · replace c17 := (h_lcr hz16).2.2.1 c17
          clear hz16
          refine h_iconst (pc' := 14) (x := (Int32.ofInt 1)) rfl rfl rfl ?_
          refine h_goto (pc' := 18) rfl rfl ?_
          refine h_zret rfl rfl ci_1 (by omega) (h_Kv ?_)
          refine h_zne (tg := 20) (pc' := 18) rfl rfl rfl ci_1 (fun c19 => ?_) (fun c19 => absurd c19 (by omega))
          refine h_aload_n (pc' := 21) rfl rfl rfl ?_
          refine h_iload_n (pc' := 22) rfl rfl rfl ?_
          refine h_call (sp := false) (pc' := 25) (M := [(0, .ref 98), (1, .int x0)]) rfl rfl rfl rfl rfl rfl rfl rfl ?_
          refine n_parM _ hI x0 _ hx0 (by omega) pr0 (fun r20 br20 hr20 s21 Is21 Gs21 ps21_0 ps21_1 => h_Kv ?_)
          have Fs21 := (Gs21.mono (B := kf_n_lookM) rfl).tr F00
          have es21_0 : s21 98 13 = σ 98 13 := (Gs21 98 13 rfl).trans rfl
          refine h_istore_n (pc' := 26) (M := [(3, .int r20), (0, .ref 98), (1, .int x0), (2, .int x1)]) rfl rfl rfl rfl ?_
          refine h_iload_n (pc' := 27) rfl rfl rfl ?_
          refine h_calls (pc' := 30) (M := [(0, .int r20)]) rfl rfl rfl rfl rfl rfl ?_
          refine n_b8 _ Is21 r20 _ hr20 (fun r22 br22 hr22 tr22 ps23_0 => h_Kv ?_)
          refine h_istore (pc' := 32) (M := [(4, .int r22), (3, .int r20), (0, .ref 98), (1, .int x0), (2, .int x1)]) rfl rfl rfl rfl ?_
          refine h_iload (pc' := 34) rfl rfl rfl ?_
          refine h_istore (pc' := 36) (M := [(5, .int r22), (4, .int r22), (3, .int r20), (0, .ref 98), (1, .int x0), (2, .int x1)]) rfl rfl rfl rfl ?_
          refine h_bipush (pc' := 38) (x := (Int32.ofInt (-4))) rfl rfl cb_m4 ?_
          refine h_istore (pc' := 40) (M := [(6, .int (Int32.ofInt (-4))), (5, .int r22), (4, .int r22), (3, .int r20), (0, .ref 98), (1, .int x0), (2, .int x1)]) rfl rfl rfl rfl ?_
          refine h_iconst (pc' := 41) (x := (Int32.ofInt 0)) rfl rfl rfl ?_
          refine h_istore (pc' := 43) (M := [(7, .int (Int32.ofInt 0)), (6, .int (Int32.ofInt (-4))), (5, .int r22), (4, .int r22), (3, .int r20), (0, .ref 98), (1, .int x0), (2, .int x1)]) rfl rfl rfl rfl ?_
          exact h_wk [(0, .ref 98), (1, .int x0), (2, .int x1), (3, .int r20), (4, .int r22), (5, .int r22), (6, .int (Int32.ofInt (-4))), (7, .int (Int32.ofInt 0))] ⟨rfl, rfl, rfl, rfl, rfl, rfl, rfl, rfl, trivial⟩ ((n_lookM_l ns σ hI x0 a0 hx0 x1 a1 hx1 pr0 kk 1000000000000).1 _ Is21 Fs21 r20 _ hr20 r22 _ hr22 (by omega) r22 _ hr22 (by omega) (Int32.ofInt (-4)) _ ci_m4 (by omega) (Int32.ofInt 0) _ ci_0 (by omega) (by omega) ps21_0 ps23_0 (by rw [ps23_0]; rfl) (by omega) (by have q := ps23_0; have r := g_b8_r r20 8; omega) (by omega))
theorem c_R.lookR {s s' : h_S} {a0 a0' a1 a1' b b' : Int} (h : c_R true s') (hI : h_I s') (ht : g_ti s') (hw : g_WS s') (hs : s' 90 2 = s' 98 29) (e8 : s' 10 8 = s 10 8) (e9 : s' 10 9 = s 10 9) (e10 : s' 10 10 = s 10 10) (e11 : s' 11 = s 11) (e12 : s' 12 = s 12) (e13 : s' 13 2 = s 13 2) (e14 : s' 14 = s 14) (e15 : s' 15 = s 15) (e16 : s' 16 2 = s 16 2) (e17 : s' 17 = s 17) (e18 : s' 18 = s 18) (e19 : s' 19 = s 19) (e20 : s' 20 = s 20) (e22 : s' 22 = s 22) (w0 : s' 90 2 = s 90 2) (w1 : s' 91 = s 91) (w2 : s' 92 = s 92) (hX : (¬ (0 ≤ a0 ∧ a0 < s 10 8 ∧ (a1 = 0 ∨ a1 = 1)) ∧ b = -1) ∨ ((0 ≤ a0 ∧ a0 < s 10 8 ∧ (a1 = 0 ∨ a1 = 1)) ∧ ∃ (w : Int32) (O : Int → Int), g_iv (fun k w => g_oX a0 (-100) s (if k = 6 then -4 else k) w ∧ O k = w.toInt) (fun k => decide (k < a0 ∨ k = 6)) (fun w => g_ag (s 91) (s 92) w (s 90 2).toNat) 7 w ∧ b = g_lo a1 (g_lf (g_wo w O) (g_bc w).toInt (s 10 10).toNat))) (hM : (¬ (0 ≤ a0' ∧ a0' < s' 98 1 ∧ (a1' = 0 ∨ a1' = 1)) ∧ b' = -1) ∨ ((0 ≤ a0' ∧ a0' < s' 98 1 ∧ (a1' = 0 ∨ a1' = 1)) ∧ ∃ (w : Int32) (O : Int → Int), g_iv (fun k w => g_oM a0' (-100) s' (if k = 6 then 0 else k + 1) w ∧ O k = w.toInt) (fun k => decide (k < a0' ∨ k = 6)) (fun w => g_ag (fun k => s' 108 (2 * k)) (fun k => s' 108 (2 * k + 1)) w (s' 98 29).toNat) 7 w ∧ b' = g_lo a1' (g_lf (g_wr w O) (g_bn8 w 8) (s' 99 43).toNat))) (e : a0' = a0) (e' : a1' = a1) : b = b' := by
  subst e; subst e'
  rw [← e8, ← e10] at hX
  have sz := h.sz
  rcases hX with q | q
  · rcases hM with m | m
    · rw [q.2, m.2]
    · exact absurd (by have m1 := m.1; omega) q.1
  · rcases hM with m | m
    · exact absurd (by have q1 := q.1; omega) m.1
    · obtain ⟨q1, w, O, hq, hb⟩ := q
      obtain ⟨-, u, O', hu, hb'⟩ := m
      have eu : w = u := h.parR hI ht hw hs e8 e9 e10 e11 e12 e13 e14 e15 e16 e17 e18 e19 e20 e22 w0 w1 w2 hq hu rfl ⟨q1.1, q1.2.1⟩
      subst eu
      have hq2 := hq
      obtain ⟨W, hW, ew⟩ := hq
      obtain ⟨W', hW', ew'⟩ := hu
      have w8 : 0 ≤ w.toInt ∧ w.toInt ≤ 255 := by
        rw [ew]
        exact g_pb_8 _ (by decide)
      have hv : ∀ k, 0 ≤ k → k ≤ 9 → ¬ g_hb w k = 0 → k < 7 ∧ decide (k < a0' ∨ k = 6) = true := fun k k0 k9 hk => by
        rw [ew] at hk
        exact g_pb_hb (m := 7) (by omega) k0 k9 hk
      have h7 : g_hb w 7 = 0 := by
        by_cases c : g_hb w 7 = 0
        · exact c
        · have z := (hv 7 (by omega) (by omega) c).1
          omega
      have ef : ∀ i, g_wo w O i = g_wr w O' i := fun i => g_wo_wr h7 (fun k k0 k7 hk => by
        have z := (hv k k0 (by omega) hk).2
        have x1 := hW k k0 (by omega) z
        have x2 := hW' k k0 (by omega) z
        have x3 := h.par1 (O := O) (O' := O') hI ht e8 e9 e10 e11 e12 e13 e14 e15 e16 e17 e18 e19 e20 e22 w0 w1 w2 ⟨q1.1, q1.2.1⟩ k (W k) (W' k) k0 (by omega) z x1 x2
        rw [x1.2, x2.2, x3])
      rw [hb, hb', g_bc_8 w8, g_lf_e ef, sz.2.2.1]
