/-! THE CELLS BEHIND BOTH CONSTRUCTORS, WHAT THEIR PLACES MAY HOLD, WHAT MAY CHANGE -/
def g_Yf (n q : Nat) : Option h_Y := bif Nat.blt q 57 then (bif Nat.blt q 28 then (bif Nat.blt q 14 then (bif Nat.blt q 7 then (bif Nat.blt q 3 then (bif Nat.blt q 1 then (some (.inl (false, n))) else (bif Nat.blt q 2 then (some (.inr (99, []))) else (some (.inr (99, []))))) else (bif Nat.blt q 5 then (bif Nat.blt q 4 then (some (.inr (99, []))) else (some (.inr (99, [])))) else (bif Nat.blt q 6 then (some (.inr (99, []))) else (some (.inr (99, [])))))) else (bif Nat.blt q 10 then (bif Nat.blt q 8 then (some (.inr (99, []))) else (bif Nat.blt q 9 then (some (.inr (99, []))) else (some (.inr (9, [some (.ref 10), some (.ref 23), some (.ref 36), some (.ref 49), some (.ref 62), some (.ref 63), some (.ref 79), some (.ref 82), some (.ref 85), some (.ref 90), some (.ref 93), some (.ref 97), none]))))) else (bif Nat.blt q 12 then (bif Nat.blt q 11 then (some (.inr (0, [some (.ref 11), some (.ref 12), some (.ref 13), some (.ref 16), some (.ref 19), some (.ref 20), some (.ref 21), some (.ref 22), none, none, none]))) else (some (.inl (false, 6)))) else (bif Nat.blt q 13 then (some (.inl (false, 6))) else (some (.inr (4, [some (.ref 14), some (.ref 15), none]))))))) else (bif Nat.blt q 21 then (bif Nat.blt q 17 then (bif Nat.blt q 15 then (some (.inl (false, 3))) else (bif Nat.blt q 16 then (some (.inl (false, 3))) else (some (.inr (4, [some (.ref 17), some (.ref 18), none]))))) else (bif Nat.blt q 19 then (bif Nat.blt q 18 then (some (.inl (false, 3))) else (some (.inl (false, 3)))) else (bif Nat.blt q 20 then (some (.inl (false, 3))) else (some (.inl (false, 3)))))) else (bif Nat.blt q 24 then (bif Nat.blt q 22 then (some (.inl (false, 3))) else (bif Nat.blt q 23 then (some (.inl (false, 8))) else (some (.inr (0, [some (.ref 24), some (.ref 25), some (.ref 26), some (.ref 29), some (.ref 32), some (.ref 33), some (.ref 34), some (.ref 35), none, none, none]))))) else (bif Nat.blt q 26 then (bif Nat.blt q 25 then (some (.inl (false, 6))) else (some (.inl (false, 6)))) else (bif Nat.blt q 27 then (some (.inr (4, [some (.ref 27), some (.ref 28), none]))) else (some (.inl (false, 3)))))))) else (bif Nat.blt q 42 then (bif Nat.blt q 35 then (bif Nat.blt q 31 then (bif Nat.blt q 29 then (some (.inl (false, 3))) else (bif Nat.blt q 30 then (some (.inr (4, [some (.ref 30), some (.ref 31), none]))) else (some (.inl (false, 3))))) else (bif Nat.blt q 33 then (bif Nat.blt q 32 then (some (.inl (false, 3))) else (some (.inl (false, 3)))) else (bif Nat.blt q 34 then (some (.inl (false, 3))) else (some (.inl (false, 3)))))) else (bif Nat.blt q 38 then (bif Nat.blt q 36 then (some (.inl (false, 8))) else (bif Nat.blt q 37 then (some (.inr (0, [some (.ref 37), some (.ref 38), some (.ref 39), some (.ref 42), some (.ref 45), some (.ref 46), some (.ref 47), some (.ref 48), none, none, none]))) else (some (.inl (false, 6))))) else (bif Nat.blt q 40 then (bif Nat.blt q 39 then (some (.inl (false, 6))) else (some (.inr (4, [some (.ref 40), some (.ref 41), none])))) else (bif Nat.blt q 41 then (some (.inl (false, 3))) else (some (.inl (false, 3))))))) else (bif Nat.blt q 49 then (bif Nat.blt q 45 then (bif Nat.blt q 43 then (some (.inr (4, [some (.ref 43), some (.ref 44), none]))) else (bif Nat.blt q 44 then (some (.inl (false, 3))) else (some (.inl (false, 3))))) else (bif Nat.blt q 47 then (bif Nat.blt q 46 then (some (.inl (false, 3))) else (some (.inl (false, 3)))) else (bif Nat.blt q 48 then (some (.inl (false, 3))) else (some (.inl (false, 8)))))) else (bif Nat.blt q 53 then (bif Nat.blt q 51 then (bif Nat.blt q 50 then (some (.inr (0, [some (.ref 50), some (.ref 51), some (.ref 52), some (.ref 55), some (.ref 58), some (.ref 59), some (.ref 60), some (.ref 61), none, none, none]))) else (some (.inl (false, 6)))) else (bif Nat.blt q 52 then (some (.inl (false, 6))) else (some (.inr (4, [some (.ref 53), some (.ref 54), none]))))) else (bif Nat.blt q 55 then (bif Nat.blt q 54 then (some (.inl (false, 3))) else (some (.inl (false, 3)))) else (bif Nat.blt q 56 then (some (.inr (4, [some (.ref 56), some (.ref 57), none]))) else (some (.inl (false, 3))))))))) else (bif Nat.blt q 86 then (bif Nat.blt q 71 then (bif Nat.blt q 64 then (bif Nat.blt q 60 then (bif Nat.blt q 58 then (some (.inl (false, 3))) else (bif Nat.blt q 59 then (some (.inl (false, 3))) else (some (.inl (false, 3))))) else (bif Nat.blt q 62 then (bif Nat.blt q 61 then (some (.inl (false, 3))) else (some (.inl (false, 8)))) else (bif Nat.blt q 63 then (some (.inl (true, 2))) else (some (.inr (5, [some (.ref 64), some (.ref 66), none, none, none, none])))))) else (bif Nat.blt q 67 then (bif Nat.blt q 65 then (some (.inr (7, [some (.ref 65), none, none, none, none, none]))) else (bif Nat.blt q 66 then (some (.inl (false, 160))) else (some (.inr (0, [some (.ref 67), some (.ref 68), some (.ref 69), some (.ref 72), some (.ref 75), some (.ref 76), some (.ref 77), some (.ref 78), none, none, none]))))) else (bif Nat.blt q 69 then (bif Nat.blt q 68 then (some (.inl (false, 6))) else (some (.inl (false, 6)))) else (bif Nat.blt q 70 then (some (.inr (4, [some (.ref 70), some (.ref 71), none]))) else (some (.inl (false, 3))))))) else (bif Nat.blt q 78 then (bif Nat.blt q 74 then (bif Nat.blt q 72 then (some (.inl (false, 3))) else (bif Nat.blt q 73 then (some (.inr (4, [some (.ref 73), some (.ref 74), none]))) else (some (.inl (false, 3))))) else (bif Nat.blt q 76 then (bif Nat.blt q 75 then (some (.inl (false, 3))) else (some (.inl (false, 3)))) else (bif Nat.blt q 77 then (some (.inl (false, 3))) else (some (.inl (false, 3)))))) else (bif Nat.blt q 82 then (bif Nat.blt q 80 then (bif Nat.blt q 79 then (some (.inl (false, 8))) else (some (.inr (2, [some (.ref 80), some (.ref 81), none])))) else (bif Nat.blt q 81 then (some (.inl (false, 36))) else (some (.inl (false, 6))))) else (bif Nat.blt q 84 then (bif Nat.blt q 83 then (some (.inr (1, [some (.ref 83), some (.ref 84), none]))) else (some (.inl (false, 21)))) else (bif Nat.blt q 85 then (some (.inl (false, 3))) else (some (.inr (3, [some (.ref 86), some (.ref 87), some (.ref 88), some (.ref 89), none])))))))) else (bif Nat.blt q 100 then (bif Nat.blt q 93 then (bif Nat.blt q 89 then (bif Nat.blt q 87 then (some (.inl (false, 7))) else (bif Nat.blt q 88 then (some (.inl (false, 448))) else (some (.inl (false, 448))))) else (bif Nat.blt q 91 then (bif Nat.blt q 90 then (some (.inl (false, 7))) else (some (.inr (8, [some (.ref 91), some (.ref 92), none])))) else (bif Nat.blt q 92 then (some (.inl (false, 6))) else (some (.inl (true, 6)))))) else (bif Nat.blt q 96 then (bif Nat.blt q 94 then (some (.inr (6, [some (.ref 94), some (.ref 95), some (.ref 96)]))) else (bif Nat.blt q 95 then (some (.inl (false, 160))) else (some (.inl (false, 4))))) else (bif Nat.blt q 98 then (bif Nat.blt q 97 then (some (.inl (false, 4))) else (some (.inl (false, 7)))) else (bif Nat.blt q 99 then (some (.inr (10, [some (.ref 99), none, none, some (.ref 100), some (.ref 101), none, none, none, none, none, some (.ref 102), none, none, none, none, none, none, none, none, some (.ref 103), some (.ref 104), some (.ref 105), none, none, some (.ref 106), some (.ref 107), none, none, some (.ref 108), none, some (.ref 109), none, some (.ref 110), some (.ref 111), some (.ref 112), some (.ref 113), none]))) else (some (.inl (false, 220))))))) else (bif Nat.blt q 107 then (bif Nat.blt q 103 then (bif Nat.blt q 101 then (some (.inl (false, 4))) else (bif Nat.blt q 102 then (some (.inl (false, 44))) else (some (.inl (false, 160))))) else (bif Nat.blt q 105 then (bif Nat.blt q 104 then (some (.inl (false, 9))) else (some (.inl (false, 44)))) else (bif Nat.blt q 106 then (some (.inl (false, 36))) else (some (.inl (false, 7)))))) else (bif Nat.blt q 111 then (bif Nat.blt q 109 then (bif Nat.blt q 108 then (some (.inl (false, 7))) else (some (.inl (false, 12)))) else (bif Nat.blt q 110 then (some (.inl (false, 7))) else (some (.inl (true, 2))))) else (bif Nat.blt q 113 then (bif Nat.blt q 112 then (some (.inl (false, 4))) else (some (.inl (false, 4)))) else (bif Nat.blt q 114 then (some (.inl (false, 160))) else (none)))))))
abbrev g_Y (n : Nat) : h_L := (g_Yf n, 114, 2414 + n)
def h_ty (q : Nat) (j v : Int) : Prop := bif Nat.blt q 57 then (bif Nat.blt q 28 then (bif Nat.blt q 14 then (bif Nat.blt q 7 then (bif Nat.blt q 3 then (bif Nat.blt q 1 then (-2147483648 ≤ v ∧ v ≤ 2147483647) else (bif Nat.blt q 2 then (True) else (True))) else (bif Nat.blt q 5 then (bif Nat.blt q 4 then (True) else (True)) else (bif Nat.blt q 6 then (True) else (True)))) else (bif Nat.blt q 10 then (bif Nat.blt q 8 then (True) else (bif Nat.blt q 9 then (True) else ((j = 12 → -2147483648 ≤ v ∧ v ≤ 2147483647)))) else (bif Nat.blt q 12 then (bif Nat.blt q 11 then ((j = 8 → 0 ≤ v ∧ v ≤ 6) ∧ (j = 9 → 0 ≤ v ∧ v ≤ 3) ∧ (j = 10 → 0 ≤ v ∧ v ≤ 8)) else (0 ≤ v ∧ v ≤ 3)) else (bif Nat.blt q 13 then (-4 ≤ v ∧ v ≤ 5 ∧ (v = -4 ∨ 0 ≤ v)) else ((j = 2 → 0 ≤ v ∧ v ≤ 3)))))) else (bif Nat.blt q 21 then (bif Nat.blt q 17 then (bif Nat.blt q 15 then (0 ≤ v ∧ v ≤ 5) else (bif Nat.blt q 16 then (0 ≤ v ∧ v ≤ 5) else ((j = 2 → 0 ≤ v ∧ v ≤ 3)))) else (bif Nat.blt q 19 then (bif Nat.blt q 18 then (0 ≤ v ∧ v ≤ 5) else (0 ≤ v ∧ v ≤ 5)) else (bif Nat.blt q 20 then (0 ≤ v ∧ v ≤ 9) else (-4 ≤ v ∧ v ≤ 5 ∧ (v = -4 ∨ 0 ≤ v))))) else (bif Nat.blt q 24 then (bif Nat.blt q 22 then (0 ≤ v ∧ v ≤ 999) else (bif Nat.blt q 23 then (0 ≤ v ∧ v ≤ 52 ∧ v % 10 ≤ 2) else ((j = 8 → 0 ≤ v ∧ v ≤ 6) ∧ (j = 9 → 0 ≤ v ∧ v ≤ 3) ∧ (j = 10 → 0 ≤ v ∧ v ≤ 8)))) else (bif Nat.blt q 26 then (bif Nat.blt q 25 then (0 ≤ v ∧ v ≤ 3) else (-4 ≤ v ∧ v ≤ 5 ∧ (v = -4 ∨ 0 ≤ v))) else (bif Nat.blt q 27 then ((j = 2 → 0 ≤ v ∧ v ≤ 3)) else (0 ≤ v ∧ v ≤ 5)))))) else (bif Nat.blt q 42 then (bif Nat.blt q 35 then (bif Nat.blt q 31 then (bif Nat.blt q 29 then (0 ≤ v ∧ v ≤ 5) else (bif Nat.blt q 30 then ((j = 2 → 0 ≤ v ∧ v ≤ 3)) else (0 ≤ v ∧ v ≤ 5))) else (bif Nat.blt q 33 then (bif Nat.blt q 32 then (0 ≤ v ∧ v ≤ 5) else (0 ≤ v ∧ v ≤ 9)) else (bif Nat.blt q 34 then (-4 ≤ v ∧ v ≤ 5 ∧ (v = -4 ∨ 0 ≤ v)) else (0 ≤ v ∧ v ≤ 999)))) else (bif Nat.blt q 38 then (bif Nat.blt q 36 then (0 ≤ v ∧ v ≤ 52 ∧ v % 10 ≤ 2) else (bif Nat.blt q 37 then ((j = 8 → 0 ≤ v ∧ v ≤ 6) ∧ (j = 9 → 0 ≤ v ∧ v ≤ 3) ∧ (j = 10 → 0 ≤ v ∧ v ≤ 8)) else (0 ≤ v ∧ v ≤ 3))) else (bif Nat.blt q 40 then (bif Nat.blt q 39 then (-4 ≤ v ∧ v ≤ 5 ∧ (v = -4 ∨ 0 ≤ v)) else ((j = 2 → 0 ≤ v ∧ v ≤ 3))) else (bif Nat.blt q 41 then (0 ≤ v ∧ v ≤ 5) else (0 ≤ v ∧ v ≤ 5))))) else (bif Nat.blt q 49 then (bif Nat.blt q 45 then (bif Nat.blt q 43 then ((j = 2 → 0 ≤ v ∧ v ≤ 3)) else (bif Nat.blt q 44 then (0 ≤ v ∧ v ≤ 5) else (0 ≤ v ∧ v ≤ 5))) else (bif Nat.blt q 47 then (bif Nat.blt q 46 then (0 ≤ v ∧ v ≤ 9) else (-4 ≤ v ∧ v ≤ 5 ∧ (v = -4 ∨ 0 ≤ v))) else (bif Nat.blt q 48 then (0 ≤ v ∧ v ≤ 999) else (0 ≤ v ∧ v ≤ 52 ∧ v % 10 ≤ 2)))) else (bif Nat.blt q 53 then (bif Nat.blt q 51 then (bif Nat.blt q 50 then ((j = 8 → 0 ≤ v ∧ v ≤ 6) ∧ (j = 9 → 0 ≤ v ∧ v ≤ 3) ∧ (j = 10 → 0 ≤ v ∧ v ≤ 8)) else (0 ≤ v ∧ v ≤ 3)) else (bif Nat.blt q 52 then (-4 ≤ v ∧ v ≤ 5 ∧ (v = -4 ∨ 0 ≤ v)) else ((j = 2 → 0 ≤ v ∧ v ≤ 3)))) else (bif Nat.blt q 55 then (bif Nat.blt q 54 then (0 ≤ v ∧ v ≤ 5) else (0 ≤ v ∧ v ≤ 5)) else (bif Nat.blt q 56 then ((j = 2 → 0 ≤ v ∧ v ≤ 3)) else (0 ≤ v ∧ v ≤ 5))))))) else (bif Nat.blt q 86 then (bif Nat.blt q 71 then (bif Nat.blt q 64 then (bif Nat.blt q 60 then (bif Nat.blt q 58 then (0 ≤ v ∧ v ≤ 5) else (bif Nat.blt q 59 then (0 ≤ v ∧ v ≤ 9) else (-4 ≤ v ∧ v ≤ 5 ∧ (v = -4 ∨ 0 ≤ v)))) else (bif Nat.blt q 62 then (bif Nat.blt q 61 then (0 ≤ v ∧ v ≤ 999) else (0 ≤ v ∧ v ≤ 52 ∧ v % 10 ≤ 2)) else (bif Nat.blt q 63 then (0 ≤ v ∧ v ≤ 1) else ((j = 2 → 0 ≤ v ∧ v ≤ 6) ∧ (j = 3 → -2147483648 ≤ v ∧ v ≤ 2147483647) ∧ (j = 4 → -2147483648 ≤ v ∧ v ≤ 2147483647) ∧ (j = 5 → 0 ≤ v ∧ v ≤ 1))))) else (bif Nat.blt q 67 then (bif Nat.blt q 65 then ((j = 1 → 0 ≤ v ∧ v ≤ 160) ∧ (j = 2 → 0 ≤ v ∧ v ≤ 160) ∧ (j = 3 → 0 ≤ v ∧ v ≤ 4) ∧ (j = 4 → 0 ≤ v ∧ v ≤ 160) ∧ (j = 5 → -2147483648 ≤ v ∧ v ≤ 2147483647)) else (bif Nat.blt q 66 then (0 ≤ v ∧ v ≤ 127) else ((j = 8 → 0 ≤ v ∧ v ≤ 6) ∧ (j = 9 → 0 ≤ v ∧ v ≤ 3) ∧ (j = 10 → 0 ≤ v ∧ v ≤ 8)))) else (bif Nat.blt q 69 then (bif Nat.blt q 68 then (0 ≤ v ∧ v ≤ 3) else (-4 ≤ v ∧ v ≤ 5 ∧ (v = -4 ∨ 0 ≤ v))) else (bif Nat.blt q 70 then ((j = 2 → 0 ≤ v ∧ v ≤ 3)) else (0 ≤ v ∧ v ≤ 5))))) else (bif Nat.blt q 78 then (bif Nat.blt q 74 then (bif Nat.blt q 72 then (0 ≤ v ∧ v ≤ 5) else (bif Nat.blt q 73 then ((j = 2 → 0 ≤ v ∧ v ≤ 3)) else (0 ≤ v ∧ v ≤ 5))) else (bif Nat.blt q 76 then (bif Nat.blt q 75 then (0 ≤ v ∧ v ≤ 5) else (0 ≤ v ∧ v ≤ 9)) else (bif Nat.blt q 77 then (-4 ≤ v ∧ v ≤ 5 ∧ (v = -4 ∨ 0 ≤ v)) else (0 ≤ v ∧ v ≤ 999)))) else (bif Nat.blt q 82 then (bif Nat.blt q 80 then (bif Nat.blt q 79 then (0 ≤ v ∧ v ≤ 52 ∧ v % 10 ≤ 2) else ((j = 2 → 0 ≤ v ∧ v ≤ 6))) else (bif Nat.blt q 81 then (0 ≤ v ∧ v ≤ 1000) else (-2147483648 ≤ v ∧ v ≤ 2147483647))) else (bif Nat.blt q 84 then (bif Nat.blt q 83 then ((j = 2 → -2147483648 ≤ v ∧ v ≤ 2147483647)) else (-2147483648 ≤ v ∧ v ≤ 2147483647)) else (bif Nat.blt q 85 then (-4 ≤ v ∧ v ≤ 5 ∧ (v = -4 ∨ 0 ≤ v)) else ((j = 4 → 0 ≤ v ∧ v ≤ 6))))))) else (bif Nat.blt q 100 then (bif Nat.blt q 93 then (bif Nat.blt q 89 then (bif Nat.blt q 87 then (-2147483648 ≤ v ∧ v ≤ 2147483647) else (bif Nat.blt q 88 then (-2147483648 ≤ v ∧ v ≤ 2147483647) else (-2147483648 ≤ v ∧ v ≤ 2147483647))) else (bif Nat.blt q 91 then (bif Nat.blt q 90 then (-2147483648 ≤ v ∧ v ≤ 2147483647) else ((j = 2 → 0 ≤ v ∧ v ≤ 6))) else (bif Nat.blt q 92 then (0 ≤ v ∧ v ≤ 7) else (0 ≤ v ∧ v ≤ 1)))) else (bif Nat.blt q 96 then (bif Nat.blt q 94 then (True) else (bif Nat.blt q 95 then (-2147483648 ≤ v ∧ v ≤ 2147483647) else (0 ≤ v ∧ v ≤ 2))) else (bif Nat.blt q 98 then (bif Nat.blt q 97 then (-4 ≤ v ∧ v ≤ 40 ∧ (v = -4 ∨ 0 ≤ v)) else (-2147483648 ≤ v ∧ v ≤ 2147483647)) else (bif Nat.blt q 99 then ((j = 1 → 0 ≤ v ∧ v ≤ 6) ∧ (j = 2 → 0 ≤ v ∧ v ≤ 3) ∧ (j = 5 → 0 ≤ v ∧ v ≤ 6) ∧ (j = 6 → 0 ≤ v ∧ v ≤ 3) ∧ (j = 7 → 0 ≤ v ∧ v ≤ 1) ∧ (j = 8 → -1 ≤ v ∧ v ≤ 5) ∧ (j = 9 → -1 ≤ v ∧ v ≤ 2) ∧ (j = 11 → 0 ≤ v ∧ v ≤ 160) ∧ (j = 12 → -2147483648 ≤ v ∧ v ≤ 2147483647) ∧ (j = 13 → 0 ≤ v ∧ v ≤ 6) ∧ (j = 14 → -2147483648 ≤ v ∧ v ≤ 2147483647) ∧ (j = 15 → 0 ≤ v ∧ v ≤ 160) ∧ (j = 16 → 0 ≤ v ∧ v ≤ 160) ∧ (j = 17 → 0 ≤ v ∧ v ≤ 3) ∧ (j = 18 → 0 ≤ v ∧ v ≤ 99) ∧ (j = 22 → -2147483648 ≤ v ∧ v ≤ 2147483647) ∧ (j = 23 → -2147483648 ≤ v ∧ v ≤ 2147483647) ∧ (j = 26 → 0 ≤ v ∧ v ≤ 6) ∧ (j = 27 → -2147483648 ≤ v ∧ v ≤ 2147483647) ∧ (j = 29 → 0 ≤ v ∧ v ≤ 6) ∧ (j = 31 → -2147483648 ≤ v ∧ v ≤ 2147483647) ∧ (j = 36 → -2147483648 ≤ v ∧ v ≤ 2147483647)) else (((0 ≤ j % 44 ∧ j % 44 < 6) → 0 ≤ v ∧ v ≤ 3) ∧ ((6 ≤ j % 44 ∧ j % 44 < 12) → 0 ≤ v ∧ v ≤ 6) ∧ ((12 ≤ j % 44 ∧ j % 44 < 18) → 0 ≤ v ∧ v ≤ 5) ∧ ((18 ≤ j % 44 ∧ j % 44 < 19) → 0 ≤ v ∧ v ≤ 3) ∧ ((19 ≤ j % 44 ∧ j % 44 < 25) → 0 ≤ v ∧ v ≤ 5) ∧ ((25 ≤ j % 44 ∧ j % 44 < 26) → 0 ≤ v ∧ v ≤ 3) ∧ ((26 ≤ j % 44 ∧ j % 44 < 29) → 0 ≤ v ∧ v ≤ 9) ∧ ((29 ≤ j % 44 ∧ j % 44 < 32) → 0 ≤ v ∧ v ≤ 6) ∧ ((32 ≤ j % 44 ∧ j % 44 < 35) → 0 ≤ v ∧ v ≤ 999) ∧ ((35 ≤ j % 44 ∧ j % 44 < 43) → 0 ≤ v ∧ v ≤ 52 ∧ v % 10 ≤ 2) ∧ ((43 ≤ j % 44 ∧ j % 44 < 44) → 0 ≤ v ∧ v ≤ 8)))))) else (bif Nat.blt q 107 then (bif Nat.blt q 103 then (bif Nat.blt q 101 then (0 ≤ v ∧ v ≤ 4) else (bif Nat.blt q 102 then (((0 ≤ j % 44 ∧ j % 44 < 6) → 0 ≤ v ∧ v ≤ 3) ∧ ((6 ≤ j % 44 ∧ j % 44 < 12) → 0 ≤ v ∧ v ≤ 6) ∧ ((12 ≤ j % 44 ∧ j % 44 < 18) → 0 ≤ v ∧ v ≤ 5) ∧ ((18 ≤ j % 44 ∧ j % 44 < 19) → 0 ≤ v ∧ v ≤ 3) ∧ ((19 ≤ j % 44 ∧ j % 44 < 25) → 0 ≤ v ∧ v ≤ 5) ∧ ((25 ≤ j % 44 ∧ j % 44 < 26) → 0 ≤ v ∧ v ≤ 3) ∧ ((26 ≤ j % 44 ∧ j % 44 < 29) → 0 ≤ v ∧ v ≤ 9) ∧ ((29 ≤ j % 44 ∧ j % 44 < 32) → 0 ≤ v ∧ v ≤ 6) ∧ ((32 ≤ j % 44 ∧ j % 44 < 35) → 0 ≤ v ∧ v ≤ 999) ∧ ((35 ≤ j % 44 ∧ j % 44 < 43) → 0 ≤ v ∧ v ≤ 52 ∧ v % 10 ≤ 2) ∧ ((43 ≤ j % 44 ∧ j % 44 < 44) → 0 ≤ v ∧ v ≤ 8)) else (0 ≤ v ∧ v ≤ 127))) else (bif Nat.blt q 105 then (bif Nat.blt q 104 then ((0 ≤ v ∧ v ≤ 44) ∧ (j = 0 → v = 0) ∧ (j = 1 → v = 5) ∧ (j = 2 → v = 12) ∧ (j = 3 → v = 19) ∧ (j = 4 → v = 27) ∧ (j = 5 → v = 32) ∧ (j = 6 → v = 36) ∧ (j = 7 → v = 40) ∧ (j = 8 → v = 44)) else ((-2147483648 ≤ v ∧ v ≤ 2147483647) ∧ (j = 0 → v = 112) ∧ (j = 1 → v = 108) ∧ (j = 2 → v = 97) ∧ (j = 3 → v = 105) ∧ (j = 4 → v = 110) ∧ (j = 5 → v = 97) ∧ (j = 6 → v = 100) ∧ (j = 7 → v = 111) ∧ (j = 8 → v = 112) ∧ (j = 9 → v = 116) ∧ (j = 10 → v = 101) ∧ (j = 11 → v = 100) ∧ (j = 12 → v = 98) ∧ (j = 13 → v = 97) ∧ (j = 14 → v = 115) ∧ (j = 15 → v = 116) ∧ (j = 16 → v = 97) ∧ (j = 17 → v = 114) ∧ (j = 18 → v = 100) ∧ (j = 19 → v = 101) ∧ (j = 20 → v = 115) ∧ (j = 21 → v = 116) ∧ (j = 22 → v = 114) ∧ (j = 23 → v = 97) ∧ (j = 24 → v = 110) ∧ (j = 25 → v = 103) ∧ (j = 26 → v = 101) ∧ (j = 27 → v = 109) ∧ (j = 28 → v = 97) ∧ (j = 29 → v = 114) ∧ (j = 30 → v = 114) ∧ (j = 31 → v = 121) ∧ (j = 32 → v = 102) ∧ (j = 33 → v = 101) ∧ (j = 34 → v = 117) ∧ (j = 35 → v = 100) ∧ (j = 36 → v = 103) ∧ (j = 37 → v = 97) ∧ (j = 38 → v = 116) ∧ (j = 39 → v = 101) ∧ (j = 40 → v = 112) ∧ (j = 41 → v = 108) ∧ (j = 42 → v = 97) ∧ (j = 43 → v = 110))) else (bif Nat.blt q 106 then (0 ≤ v ∧ v ≤ 1000000) else (-1 ≤ v ∧ v ≤ 6)))) else (bif Nat.blt q 111 then (bif Nat.blt q 109 then (bif Nat.blt q 108 then (-2147483648 ≤ v ∧ v ≤ 2147483647) else (-2147483648 ≤ v ∧ v ≤ 2147483647)) else (bif Nat.blt q 110 then (-2147483648 ≤ v ∧ v ≤ 2147483647) else (0 ≤ v ∧ v ≤ 1))) else (bif Nat.blt q 113 then (bif Nat.blt q 112 then (-4 ≤ v ∧ v ≤ 2 ∧ (v = -4 ∨ 0 ≤ v)) else (0 ≤ v ∧ v ≤ 40)) else (bif Nat.blt q 114 then (-2147483648 ≤ v ∧ v ≤ 2147483647) else (True)))))))
def h_I (σ : h_S) : Prop := ∀ q j, h_ty q j (σ q j)
theorem h_I_up {σ : h_S} {q : Nat} {j v : Int} (h : h_I σ) (hv : h_ty q j v) : h_I (h_up σ q j v) := by
  intro p i
  unfold h_up
  split
  · next e => obtain ⟨rfl, rfl⟩ := e; exact hv
  · exact h p i
theorem h_rng (x : Int32) : -2147483648 ≤ x.toInt ∧ x.toInt ≤ 2147483647 := by
  have h1 := Int32.le_toInt x
  have h2 := Int32.toInt_lt x
  omega
theorem tf_9_12 {σ : h_S} (h : h_I σ) : -2147483648 ≤ σ 9 12 ∧ σ 9 12 ≤ 2147483647 := (h 9 12) rfl
theorem if_9_12 {σ : h_S} (h : h_I σ) {v : Int} (hv : -2147483648 ≤ v ∧ v ≤ 2147483647) : h_I (h_up σ 9 12 v) := h_I_up h (fun _ => hv)
theorem tf_10_8 {σ : h_S} (h : h_I σ) : 0 ≤ σ 10 8 ∧ σ 10 8 ≤ 6 := (h 10 8).1 rfl
theorem if_10_8 {σ : h_S} (h : h_I σ) {v : Int} (hv : 0 ≤ v ∧ v ≤ 6) : h_I (h_up σ 10 8 v) := h_I_up h (⟨fun _ => hv, fun e => absurd e (by decide), fun e => absurd e (by decide)⟩)
theorem tf_10_9 {σ : h_S} (h : h_I σ) : 0 ≤ σ 10 9 ∧ σ 10 9 ≤ 3 := (h 10 9).2.1 rfl
theorem if_10_9 {σ : h_S} (h : h_I σ) {v : Int} (hv : 0 ≤ v ∧ v ≤ 3) : h_I (h_up σ 10 9 v) := h_I_up h (⟨fun e => absurd e (by decide), fun _ => hv, fun e => absurd e (by decide)⟩)
theorem tf_10_10 {σ : h_S} (h : h_I σ) : 0 ≤ σ 10 10 ∧ σ 10 10 ≤ 8 := (h 10 10).2.2 rfl
theorem if_10_10 {σ : h_S} (h : h_I σ) {v : Int} (hv : 0 ≤ v ∧ v ≤ 8) : h_I (h_up σ 10 10 v) := h_I_up h (⟨fun e => absurd e (by decide), fun e => absurd e (by decide), fun _ => hv⟩)
theorem ty_11 {σ : h_S} (h : h_I σ) (j : Int) : 0 ≤ σ 11 j ∧ σ 11 j ≤ 3 := h 11 j
theorem in_11 {σ : h_S} (h : h_I σ) {j v : Int} (hv : 0 ≤ v ∧ v ≤ 3) : h_I (h_up σ 11 j v) := h_I_up h hv
theorem ty_12 {σ : h_S} (h : h_I σ) (j : Int) : -4 ≤ σ 12 j ∧ σ 12 j ≤ 5 ∧ (σ 12 j = -4 ∨ 0 ≤ σ 12 j) := h 12 j
theorem in_12 {σ : h_S} (h : h_I σ) {j v : Int} (hv : -4 ≤ v ∧ v ≤ 5 ∧ (v = -4 ∨ 0 ≤ v)) : h_I (h_up σ 12 j v) := h_I_up h hv
theorem tf_13_2 {σ : h_S} (h : h_I σ) : 0 ≤ σ 13 2 ∧ σ 13 2 ≤ 3 := (h 13 2) rfl
theorem if_13_2 {σ : h_S} (h : h_I σ) {v : Int} (hv : 0 ≤ v ∧ v ≤ 3) : h_I (h_up σ 13 2 v) := h_I_up h (fun _ => hv)
theorem ty_14 {σ : h_S} (h : h_I σ) (j : Int) : 0 ≤ σ 14 j ∧ σ 14 j ≤ 5 := h 14 j
theorem in_14 {σ : h_S} (h : h_I σ) {j v : Int} (hv : 0 ≤ v ∧ v ≤ 5) : h_I (h_up σ 14 j v) := h_I_up h hv
theorem ty_15 {σ : h_S} (h : h_I σ) (j : Int) : 0 ≤ σ 15 j ∧ σ 15 j ≤ 5 := h 15 j
theorem in_15 {σ : h_S} (h : h_I σ) {j v : Int} (hv : 0 ≤ v ∧ v ≤ 5) : h_I (h_up σ 15 j v) := h_I_up h hv
theorem tf_16_2 {σ : h_S} (h : h_I σ) : 0 ≤ σ 16 2 ∧ σ 16 2 ≤ 3 := (h 16 2) rfl
theorem if_16_2 {σ : h_S} (h : h_I σ) {v : Int} (hv : 0 ≤ v ∧ v ≤ 3) : h_I (h_up σ 16 2 v) := h_I_up h (fun _ => hv)
theorem ty_17 {σ : h_S} (h : h_I σ) (j : Int) : 0 ≤ σ 17 j ∧ σ 17 j ≤ 5 := h 17 j
theorem in_17 {σ : h_S} (h : h_I σ) {j v : Int} (hv : 0 ≤ v ∧ v ≤ 5) : h_I (h_up σ 17 j v) := h_I_up h hv
theorem ty_18 {σ : h_S} (h : h_I σ) (j : Int) : 0 ≤ σ 18 j ∧ σ 18 j ≤ 5 := h 18 j
theorem in_18 {σ : h_S} (h : h_I σ) {j v : Int} (hv : 0 ≤ v ∧ v ≤ 5) : h_I (h_up σ 18 j v) := h_I_up h hv
theorem ty_19 {σ : h_S} (h : h_I σ) (j : Int) : 0 ≤ σ 19 j ∧ σ 19 j ≤ 9 := h 19 j
theorem in_19 {σ : h_S} (h : h_I σ) {j v : Int} (hv : 0 ≤ v ∧ v ≤ 9) : h_I (h_up σ 19 j v) := h_I_up h hv
theorem ty_20 {σ : h_S} (h : h_I σ) (j : Int) : -4 ≤ σ 20 j ∧ σ 20 j ≤ 5 ∧ (σ 20 j = -4 ∨ 0 ≤ σ 20 j) := h 20 j
theorem in_20 {σ : h_S} (h : h_I σ) {j v : Int} (hv : -4 ≤ v ∧ v ≤ 5 ∧ (v = -4 ∨ 0 ≤ v)) : h_I (h_up σ 20 j v) := h_I_up h hv
theorem ty_21 {σ : h_S} (h : h_I σ) (j : Int) : 0 ≤ σ 21 j ∧ σ 21 j ≤ 999 := h 21 j
theorem in_21 {σ : h_S} (h : h_I σ) {j v : Int} (hv : 0 ≤ v ∧ v ≤ 999) : h_I (h_up σ 21 j v) := h_I_up h hv
theorem ty_22 {σ : h_S} (h : h_I σ) (j : Int) : 0 ≤ σ 22 j ∧ σ 22 j ≤ 52 ∧ σ 22 j % 10 ≤ 2 := h 22 j
theorem in_22 {σ : h_S} (h : h_I σ) {j v : Int} (hv : 0 ≤ v ∧ v ≤ 52 ∧ v % 10 ≤ 2) : h_I (h_up σ 22 j v) := h_I_up h hv
theorem tf_23_8 {σ : h_S} (h : h_I σ) : 0 ≤ σ 23 8 ∧ σ 23 8 ≤ 6 := (h 23 8).1 rfl
theorem if_23_8 {σ : h_S} (h : h_I σ) {v : Int} (hv : 0 ≤ v ∧ v ≤ 6) : h_I (h_up σ 23 8 v) := h_I_up h (⟨fun _ => hv, fun e => absurd e (by decide), fun e => absurd e (by decide)⟩)
theorem tf_23_9 {σ : h_S} (h : h_I σ) : 0 ≤ σ 23 9 ∧ σ 23 9 ≤ 3 := (h 23 9).2.1 rfl
theorem if_23_9 {σ : h_S} (h : h_I σ) {v : Int} (hv : 0 ≤ v ∧ v ≤ 3) : h_I (h_up σ 23 9 v) := h_I_up h (⟨fun e => absurd e (by decide), fun _ => hv, fun e => absurd e (by decide)⟩)
theorem tf_23_10 {σ : h_S} (h : h_I σ) : 0 ≤ σ 23 10 ∧ σ 23 10 ≤ 8 := (h 23 10).2.2 rfl
theorem if_23_10 {σ : h_S} (h : h_I σ) {v : Int} (hv : 0 ≤ v ∧ v ≤ 8) : h_I (h_up σ 23 10 v) := h_I_up h (⟨fun e => absurd e (by decide), fun e => absurd e (by decide), fun _ => hv⟩)
theorem ty_24 {σ : h_S} (h : h_I σ) (j : Int) : 0 ≤ σ 24 j ∧ σ 24 j ≤ 3 := h 24 j
theorem ty_25 {σ : h_S} (h : h_I σ) (j : Int) : -4 ≤ σ 25 j ∧ σ 25 j ≤ 5 ∧ (σ 25 j = -4 ∨ 0 ≤ σ 25 j) := h 25 j
theorem in_25 {σ : h_S} (h : h_I σ) {j v : Int} (hv : -4 ≤ v ∧ v ≤ 5 ∧ (v = -4 ∨ 0 ≤ v)) : h_I (h_up σ 25 j v) := h_I_up h hv
theorem tf_26_2 {σ : h_S} (h : h_I σ) : 0 ≤ σ 26 2 ∧ σ 26 2 ≤ 3 := (h 26 2) rfl
theorem if_26_2 {σ : h_S} (h : h_I σ) {v : Int} (hv : 0 ≤ v ∧ v ≤ 3) : h_I (h_up σ 26 2 v) := h_I_up h (fun _ => hv)
theorem ty_27 {σ : h_S} (h : h_I σ) (j : Int) : 0 ≤ σ 27 j ∧ σ 27 j ≤ 5 := h 27 j
theorem in_27 {σ : h_S} (h : h_I σ) {j v : Int} (hv : 0 ≤ v ∧ v ≤ 5) : h_I (h_up σ 27 j v) := h_I_up h hv
theorem ty_28 {σ : h_S} (h : h_I σ) (j : Int) : 0 ≤ σ 28 j ∧ σ 28 j ≤ 5 := h 28 j
theorem in_28 {σ : h_S} (h : h_I σ) {j v : Int} (hv : 0 ≤ v ∧ v ≤ 5) : h_I (h_up σ 28 j v) := h_I_up h hv
theorem tf_29_2 {σ : h_S} (h : h_I σ) : 0 ≤ σ 29 2 ∧ σ 29 2 ≤ 3 := (h 29 2) rfl
theorem if_29_2 {σ : h_S} (h : h_I σ) {v : Int} (hv : 0 ≤ v ∧ v ≤ 3) : h_I (h_up σ 29 2 v) := h_I_up h (fun _ => hv)
theorem ty_30 {σ : h_S} (h : h_I σ) (j : Int) : 0 ≤ σ 30 j ∧ σ 30 j ≤ 5 := h 30 j
theorem ty_31 {σ : h_S} (h : h_I σ) (j : Int) : 0 ≤ σ 31 j ∧ σ 31 j ≤ 5 := h 31 j
theorem ty_32 {σ : h_S} (h : h_I σ) (j : Int) : 0 ≤ σ 32 j ∧ σ 32 j ≤ 9 := h 32 j
theorem in_32 {σ : h_S} (h : h_I σ) {j v : Int} (hv : 0 ≤ v ∧ v ≤ 9) : h_I (h_up σ 32 j v) := h_I_up h hv
theorem ty_33 {σ : h_S} (h : h_I σ) (j : Int) : -4 ≤ σ 33 j ∧ σ 33 j ≤ 5 ∧ (σ 33 j = -4 ∨ 0 ≤ σ 33 j) := h 33 j
theorem ty_35 {σ : h_S} (h : h_I σ) (j : Int) : 0 ≤ σ 35 j ∧ σ 35 j ≤ 52 ∧ σ 35 j % 10 ≤ 2 := h 35 j
theorem tf_36_8 {σ : h_S} (h : h_I σ) : 0 ≤ σ 36 8 ∧ σ 36 8 ≤ 6 := (h 36 8).1 rfl
theorem if_36_8 {σ : h_S} (h : h_I σ) {v : Int} (hv : 0 ≤ v ∧ v ≤ 6) : h_I (h_up σ 36 8 v) := h_I_up h (⟨fun _ => hv, fun e => absurd e (by decide), fun e => absurd e (by decide)⟩)
theorem tf_36_9 {σ : h_S} (h : h_I σ) : 0 ≤ σ 36 9 ∧ σ 36 9 ≤ 3 := (h 36 9).2.1 rfl
theorem if_36_9 {σ : h_S} (h : h_I σ) {v : Int} (hv : 0 ≤ v ∧ v ≤ 3) : h_I (h_up σ 36 9 v) := h_I_up h (⟨fun e => absurd e (by decide), fun _ => hv, fun e => absurd e (by decide)⟩)
theorem tf_36_10 {σ : h_S} (h : h_I σ) : 0 ≤ σ 36 10 ∧ σ 36 10 ≤ 8 := (h 36 10).2.2 rfl
theorem if_36_10 {σ : h_S} (h : h_I σ) {v : Int} (hv : 0 ≤ v ∧ v ≤ 8) : h_I (h_up σ 36 10 v) := h_I_up h (⟨fun e => absurd e (by decide), fun e => absurd e (by decide), fun _ => hv⟩)
theorem tf_39_2 {σ : h_S} (h : h_I σ) : 0 ≤ σ 39 2 ∧ σ 39 2 ≤ 3 := (h 39 2) rfl
theorem if_39_2 {σ : h_S} (h : h_I σ) {v : Int} (hv : 0 ≤ v ∧ v ≤ 3) : h_I (h_up σ 39 2 v) := h_I_up h (fun _ => hv)
theorem tf_42_2 {σ : h_S} (h : h_I σ) : 0 ≤ σ 42 2 ∧ σ 42 2 ≤ 3 := (h 42 2) rfl
theorem if_42_2 {σ : h_S} (h : h_I σ) {v : Int} (hv : 0 ≤ v ∧ v ≤ 3) : h_I (h_up σ 42 2 v) := h_I_up h (fun _ => hv)
theorem tf_49_8 {σ : h_S} (h : h_I σ) : 0 ≤ σ 49 8 ∧ σ 49 8 ≤ 6 := (h 49 8).1 rfl
theorem if_49_8 {σ : h_S} (h : h_I σ) {v : Int} (hv : 0 ≤ v ∧ v ≤ 6) : h_I (h_up σ 49 8 v) := h_I_up h (⟨fun _ => hv, fun e => absurd e (by decide), fun e => absurd e (by decide)⟩)
theorem tf_49_9 {σ : h_S} (h : h_I σ) : 0 ≤ σ 49 9 ∧ σ 49 9 ≤ 3 := (h 49 9).2.1 rfl
theorem if_49_9 {σ : h_S} (h : h_I σ) {v : Int} (hv : 0 ≤ v ∧ v ≤ 3) : h_I (h_up σ 49 9 v) := h_I_up h (⟨fun e => absurd e (by decide), fun _ => hv, fun e => absurd e (by decide)⟩)
theorem tf_49_10 {σ : h_S} (h : h_I σ) : 0 ≤ σ 49 10 ∧ σ 49 10 ≤ 8 := (h 49 10).2.2 rfl
theorem if_49_10 {σ : h_S} (h : h_I σ) {v : Int} (hv : 0 ≤ v ∧ v ≤ 8) : h_I (h_up σ 49 10 v) := h_I_up h (⟨fun e => absurd e (by decide), fun e => absurd e (by decide), fun _ => hv⟩)
theorem tf_52_2 {σ : h_S} (h : h_I σ) : 0 ≤ σ 52 2 ∧ σ 52 2 ≤ 3 := (h 52 2) rfl
theorem if_52_2 {σ : h_S} (h : h_I σ) {v : Int} (hv : 0 ≤ v ∧ v ≤ 3) : h_I (h_up σ 52 2 v) := h_I_up h (fun _ => hv)
theorem tf_55_2 {σ : h_S} (h : h_I σ) : 0 ≤ σ 55 2 ∧ σ 55 2 ≤ 3 := (h 55 2) rfl
theorem if_55_2 {σ : h_S} (h : h_I σ) {v : Int} (hv : 0 ≤ v ∧ v ≤ 3) : h_I (h_up σ 55 2 v) := h_I_up h (fun _ => hv)
theorem ty_62 {σ : h_S} (h : h_I σ) (j : Int) : 0 ≤ σ 62 j ∧ σ 62 j ≤ 1 := h 62 j
theorem in_62 {σ : h_S} (h : h_I σ) {j v : Int} (hv : 0 ≤ v ∧ v ≤ 1) : h_I (h_up σ 62 j v) := h_I_up h hv
theorem tf_63_2 {σ : h_S} (h : h_I σ) : 0 ≤ σ 63 2 ∧ σ 63 2 ≤ 6 := (h 63 2).1 rfl
theorem if_63_2 {σ : h_S} (h : h_I σ) {v : Int} (hv : 0 ≤ v ∧ v ≤ 6) : h_I (h_up σ 63 2 v) := h_I_up h (⟨fun _ => hv, fun e => absurd e (by decide), fun e => absurd e (by decide), fun e => absurd e (by decide)⟩)
theorem tf_63_3 {σ : h_S} (h : h_I σ) : -2147483648 ≤ σ 63 3 ∧ σ 63 3 ≤ 2147483647 := (h 63 3).2.1 rfl
theorem if_63_3 {σ : h_S} (h : h_I σ) {v : Int} (hv : -2147483648 ≤ v ∧ v ≤ 2147483647) : h_I (h_up σ 63 3 v) := h_I_up h (⟨fun e => absurd e (by decide), fun _ => hv, fun e => absurd e (by decide), fun e => absurd e (by decide)⟩)
theorem tf_63_4 {σ : h_S} (h : h_I σ) : -2147483648 ≤ σ 63 4 ∧ σ 63 4 ≤ 2147483647 := (h 63 4).2.2.1 rfl
theorem if_63_4 {σ : h_S} (h : h_I σ) {v : Int} (hv : -2147483648 ≤ v ∧ v ≤ 2147483647) : h_I (h_up σ 63 4 v) := h_I_up h (⟨fun e => absurd e (by decide), fun e => absurd e (by decide), fun _ => hv, fun e => absurd e (by decide)⟩)
theorem tf_63_5 {σ : h_S} (h : h_I σ) : 0 ≤ σ 63 5 ∧ σ 63 5 ≤ 1 := (h 63 5).2.2.2 rfl
theorem if_63_5 {σ : h_S} (h : h_I σ) {v : Int} (hv : 0 ≤ v ∧ v ≤ 1) : h_I (h_up σ 63 5 v) := h_I_up h (⟨fun e => absurd e (by decide), fun e => absurd e (by decide), fun e => absurd e (by decide), fun _ => hv⟩)
theorem tf_64_1 {σ : h_S} (h : h_I σ) : 0 ≤ σ 64 1 ∧ σ 64 1 ≤ 160 := (h 64 1).1 rfl
theorem if_64_1 {σ : h_S} (h : h_I σ) {v : Int} (hv : 0 ≤ v ∧ v ≤ 160) : h_I (h_up σ 64 1 v) := h_I_up h (⟨fun _ => hv, fun e => absurd e (by decide), fun e => absurd e (by decide), fun e => absurd e (by decide), fun e => absurd e (by decide)⟩)
theorem tf_64_2 {σ : h_S} (h : h_I σ) : 0 ≤ σ 64 2 ∧ σ 64 2 ≤ 160 := (h 64 2).2.1 rfl
theorem if_64_2 {σ : h_S} (h : h_I σ) {v : Int} (hv : 0 ≤ v ∧ v ≤ 160) : h_I (h_up σ 64 2 v) := h_I_up h (⟨fun e => absurd e (by decide), fun _ => hv, fun e => absurd e (by decide), fun e => absurd e (by decide), fun e => absurd e (by decide)⟩)
theorem tf_64_3 {σ : h_S} (h : h_I σ) : 0 ≤ σ 64 3 ∧ σ 64 3 ≤ 4 := (h 64 3).2.2.1 rfl
theorem if_64_3 {σ : h_S} (h : h_I σ) {v : Int} (hv : 0 ≤ v ∧ v ≤ 4) : h_I (h_up σ 64 3 v) := h_I_up h (⟨fun e => absurd e (by decide), fun e => absurd e (by decide), fun _ => hv, fun e => absurd e (by decide), fun e => absurd e (by decide)⟩)
theorem tf_64_4 {σ : h_S} (h : h_I σ) : 0 ≤ σ 64 4 ∧ σ 64 4 ≤ 160 := (h 64 4).2.2.2.1 rfl
theorem if_64_4 {σ : h_S} (h : h_I σ) {v : Int} (hv : 0 ≤ v ∧ v ≤ 160) : h_I (h_up σ 64 4 v) := h_I_up h (⟨fun e => absurd e (by decide), fun e => absurd e (by decide), fun e => absurd e (by decide), fun _ => hv, fun e => absurd e (by decide)⟩)
theorem tf_64_5 {σ : h_S} (h : h_I σ) : -2147483648 ≤ σ 64 5 ∧ σ 64 5 ≤ 2147483647 := (h 64 5).2.2.2.2 rfl
theorem if_64_5 {σ : h_S} (h : h_I σ) {v : Int} (hv : -2147483648 ≤ v ∧ v ≤ 2147483647) : h_I (h_up σ 64 5 v) := h_I_up h (⟨fun e => absurd e (by decide), fun e => absurd e (by decide), fun e => absurd e (by decide), fun e => absurd e (by decide), fun _ => hv⟩)
theorem ty_65 {σ : h_S} (h : h_I σ) (j : Int) : 0 ≤ σ 65 j ∧ σ 65 j ≤ 127 := h 65 j
theorem in_65 {σ : h_S} (h : h_I σ) {j v : Int} (hv : 0 ≤ v ∧ v ≤ 127) : h_I (h_up σ 65 j v) := h_I_up h hv
theorem tf_66_8 {σ : h_S} (h : h_I σ) : 0 ≤ σ 66 8 ∧ σ 66 8 ≤ 6 := (h 66 8).1 rfl
theorem if_66_8 {σ : h_S} (h : h_I σ) {v : Int} (hv : 0 ≤ v ∧ v ≤ 6) : h_I (h_up σ 66 8 v) := h_I_up h (⟨fun _ => hv, fun e => absurd e (by decide), fun e => absurd e (by decide)⟩)
theorem tf_66_9 {σ : h_S} (h : h_I σ) : 0 ≤ σ 66 9 ∧ σ 66 9 ≤ 3 := (h 66 9).2.1 rfl
theorem if_66_9 {σ : h_S} (h : h_I σ) {v : Int} (hv : 0 ≤ v ∧ v ≤ 3) : h_I (h_up σ 66 9 v) := h_I_up h (⟨fun e => absurd e (by decide), fun _ => hv, fun e => absurd e (by decide)⟩)
theorem tf_66_10 {σ : h_S} (h : h_I σ) : 0 ≤ σ 66 10 ∧ σ 66 10 ≤ 8 := (h 66 10).2.2 rfl
theorem if_66_10 {σ : h_S} (h : h_I σ) {v : Int} (hv : 0 ≤ v ∧ v ≤ 8) : h_I (h_up σ 66 10 v) := h_I_up h (⟨fun e => absurd e (by decide), fun e => absurd e (by decide), fun _ => hv⟩)
theorem in_67 {σ : h_S} (h : h_I σ) {j v : Int} (hv : 0 ≤ v ∧ v ≤ 3) : h_I (h_up σ 67 j v) := h_I_up h hv
theorem in_68 {σ : h_S} (h : h_I σ) {j v : Int} (hv : -4 ≤ v ∧ v ≤ 5 ∧ (v = -4 ∨ 0 ≤ v)) : h_I (h_up σ 68 j v) := h_I_up h hv
theorem tf_69_2 {σ : h_S} (h : h_I σ) : 0 ≤ σ 69 2 ∧ σ 69 2 ≤ 3 := (h 69 2) rfl
theorem if_69_2 {σ : h_S} (h : h_I σ) {v : Int} (hv : 0 ≤ v ∧ v ≤ 3) : h_I (h_up σ 69 2 v) := h_I_up h (fun _ => hv)
theorem ty_70 {σ : h_S} (h : h_I σ) (j : Int) : 0 ≤ σ 70 j ∧ σ 70 j ≤ 5 := h 70 j
theorem in_70 {σ : h_S} (h : h_I σ) {j v : Int} (hv : 0 ≤ v ∧ v ≤ 5) : h_I (h_up σ 70 j v) := h_I_up h hv
theorem ty_71 {σ : h_S} (h : h_I σ) (j : Int) : 0 ≤ σ 71 j ∧ σ 71 j ≤ 5 := h 71 j
theorem in_71 {σ : h_S} (h : h_I σ) {j v : Int} (hv : 0 ≤ v ∧ v ≤ 5) : h_I (h_up σ 71 j v) := h_I_up h hv
theorem tf_72_2 {σ : h_S} (h : h_I σ) : 0 ≤ σ 72 2 ∧ σ 72 2 ≤ 3 := (h 72 2) rfl
theorem if_72_2 {σ : h_S} (h : h_I σ) {v : Int} (hv : 0 ≤ v ∧ v ≤ 3) : h_I (h_up σ 72 2 v) := h_I_up h (fun _ => hv)
theorem ty_73 {σ : h_S} (h : h_I σ) (j : Int) : 0 ≤ σ 73 j ∧ σ 73 j ≤ 5 := h 73 j
theorem in_73 {σ : h_S} (h : h_I σ) {j v : Int} (hv : 0 ≤ v ∧ v ≤ 5) : h_I (h_up σ 73 j v) := h_I_up h hv
theorem ty_74 {σ : h_S} (h : h_I σ) (j : Int) : 0 ≤ σ 74 j ∧ σ 74 j ≤ 5 := h 74 j
theorem in_74 {σ : h_S} (h : h_I σ) {j v : Int} (hv : 0 ≤ v ∧ v ≤ 5) : h_I (h_up σ 74 j v) := h_I_up h hv
theorem in_75 {σ : h_S} (h : h_I σ) {j v : Int} (hv : 0 ≤ v ∧ v ≤ 9) : h_I (h_up σ 75 j v) := h_I_up h hv
theorem ty_76 {σ : h_S} (h : h_I σ) (j : Int) : -4 ≤ σ 76 j ∧ σ 76 j ≤ 5 ∧ (σ 76 j = -4 ∨ 0 ≤ σ 76 j) := h 76 j
theorem in_76 {σ : h_S} (h : h_I σ) {j v : Int} (hv : -4 ≤ v ∧ v ≤ 5 ∧ (v = -4 ∨ 0 ≤ v)) : h_I (h_up σ 76 j v) := h_I_up h hv
theorem in_77 {σ : h_S} (h : h_I σ) {j v : Int} (hv : 0 ≤ v ∧ v ≤ 999) : h_I (h_up σ 77 j v) := h_I_up h hv
theorem ty_78 {σ : h_S} (h : h_I σ) (j : Int) : 0 ≤ σ 78 j ∧ σ 78 j ≤ 52 ∧ σ 78 j % 10 ≤ 2 := h 78 j
theorem in_78 {σ : h_S} (h : h_I σ) {j v : Int} (hv : 0 ≤ v ∧ v ≤ 52 ∧ v % 10 ≤ 2) : h_I (h_up σ 78 j v) := h_I_up h hv
theorem tf_79_2 {σ : h_S} (h : h_I σ) : 0 ≤ σ 79 2 ∧ σ 79 2 ≤ 6 := (h 79 2) rfl
theorem if_79_2 {σ : h_S} (h : h_I σ) {v : Int} (hv : 0 ≤ v ∧ v ≤ 6) : h_I (h_up σ 79 2 v) := h_I_up h (fun _ => hv)
theorem ty_80 {σ : h_S} (h : h_I σ) (j : Int) : 0 ≤ σ 80 j ∧ σ 80 j ≤ 1000 := h 80 j
theorem in_80 {σ : h_S} (h : h_I σ) {j v : Int} (hv : 0 ≤ v ∧ v ≤ 1000) : h_I (h_up σ 80 j v) := h_I_up h hv
theorem ty_81 {σ : h_S} (h : h_I σ) (j : Int) : -2147483648 ≤ σ 81 j ∧ σ 81 j ≤ 2147483647 := h 81 j
theorem in_81 {σ : h_S} (h : h_I σ) {j v : Int} (hv : -2147483648 ≤ v ∧ v ≤ 2147483647) : h_I (h_up σ 81 j v) := h_I_up h hv
theorem tf_82_2 {σ : h_S} (h : h_I σ) : -2147483648 ≤ σ 82 2 ∧ σ 82 2 ≤ 2147483647 := (h 82 2) rfl
theorem if_82_2 {σ : h_S} (h : h_I σ) {v : Int} (hv : -2147483648 ≤ v ∧ v ≤ 2147483647) : h_I (h_up σ 82 2 v) := h_I_up h (fun _ => hv)
theorem ty_83 {σ : h_S} (h : h_I σ) (j : Int) : -2147483648 ≤ σ 83 j ∧ σ 83 j ≤ 2147483647 := h 83 j
theorem in_83 {σ : h_S} (h : h_I σ) {j v : Int} (hv : -2147483648 ≤ v ∧ v ≤ 2147483647) : h_I (h_up σ 83 j v) := h_I_up h hv
theorem ty_84 {σ : h_S} (h : h_I σ) (j : Int) : -4 ≤ σ 84 j ∧ σ 84 j ≤ 5 ∧ (σ 84 j = -4 ∨ 0 ≤ σ 84 j) := h 84 j
theorem in_84 {σ : h_S} (h : h_I σ) {j v : Int} (hv : -4 ≤ v ∧ v ≤ 5 ∧ (v = -4 ∨ 0 ≤ v)) : h_I (h_up σ 84 j v) := h_I_up h hv
theorem tf_85_4 {σ : h_S} (h : h_I σ) : 0 ≤ σ 85 4 ∧ σ 85 4 ≤ 6 := (h 85 4) rfl
theorem if_85_4 {σ : h_S} (h : h_I σ) {v : Int} (hv : 0 ≤ v ∧ v ≤ 6) : h_I (h_up σ 85 4 v) := h_I_up h (fun _ => hv)
theorem ty_86 {σ : h_S} (h : h_I σ) (j : Int) : -2147483648 ≤ σ 86 j ∧ σ 86 j ≤ 2147483647 := h 86 j
theorem in_86 {σ : h_S} (h : h_I σ) {j v : Int} (hv : -2147483648 ≤ v ∧ v ≤ 2147483647) : h_I (h_up σ 86 j v) := h_I_up h hv
theorem ty_87 {σ : h_S} (h : h_I σ) (j : Int) : -2147483648 ≤ σ 87 j ∧ σ 87 j ≤ 2147483647 := h 87 j
theorem in_87 {σ : h_S} (h : h_I σ) {j v : Int} (hv : -2147483648 ≤ v ∧ v ≤ 2147483647) : h_I (h_up σ 87 j v) := h_I_up h hv
theorem ty_88 {σ : h_S} (h : h_I σ) (j : Int) : -2147483648 ≤ σ 88 j ∧ σ 88 j ≤ 2147483647 := h 88 j
theorem in_88 {σ : h_S} (h : h_I σ) {j v : Int} (hv : -2147483648 ≤ v ∧ v ≤ 2147483647) : h_I (h_up σ 88 j v) := h_I_up h hv
theorem ty_89 {σ : h_S} (h : h_I σ) (j : Int) : -2147483648 ≤ σ 89 j ∧ σ 89 j ≤ 2147483647 := h 89 j
theorem in_89 {σ : h_S} (h : h_I σ) {j v : Int} (hv : -2147483648 ≤ v ∧ v ≤ 2147483647) : h_I (h_up σ 89 j v) := h_I_up h hv
theorem tf_90_2 {σ : h_S} (h : h_I σ) : 0 ≤ σ 90 2 ∧ σ 90 2 ≤ 6 := (h 90 2) rfl
theorem if_90_2 {σ : h_S} (h : h_I σ) {v : Int} (hv : 0 ≤ v ∧ v ≤ 6) : h_I (h_up σ 90 2 v) := h_I_up h (fun _ => hv)
theorem ty_91 {σ : h_S} (h : h_I σ) (j : Int) : 0 ≤ σ 91 j ∧ σ 91 j ≤ 7 := h 91 j
theorem in_91 {σ : h_S} (h : h_I σ) {j v : Int} (hv : 0 ≤ v ∧ v ≤ 7) : h_I (h_up σ 91 j v) := h_I_up h hv
theorem ty_92 {σ : h_S} (h : h_I σ) (j : Int) : 0 ≤ σ 92 j ∧ σ 92 j ≤ 1 := h 92 j
theorem in_92 {σ : h_S} (h : h_I σ) {j v : Int} (hv : 0 ≤ v ∧ v ≤ 1) : h_I (h_up σ 92 j v) := h_I_up h hv
theorem ty_94 {σ : h_S} (h : h_I σ) (j : Int) : -2147483648 ≤ σ 94 j ∧ σ 94 j ≤ 2147483647 := h 94 j
theorem in_94 {σ : h_S} (h : h_I σ) {j v : Int} (hv : -2147483648 ≤ v ∧ v ≤ 2147483647) : h_I (h_up σ 94 j v) := h_I_up h hv
theorem ty_95 {σ : h_S} (h : h_I σ) (j : Int) : 0 ≤ σ 95 j ∧ σ 95 j ≤ 2 := h 95 j
theorem in_95 {σ : h_S} (h : h_I σ) {j v : Int} (hv : 0 ≤ v ∧ v ≤ 2) : h_I (h_up σ 95 j v) := h_I_up h hv
theorem ty_96 {σ : h_S} (h : h_I σ) (j : Int) : -4 ≤ σ 96 j ∧ σ 96 j ≤ 40 ∧ (σ 96 j = -4 ∨ 0 ≤ σ 96 j) := h 96 j
theorem in_96 {σ : h_S} (h : h_I σ) {j v : Int} (hv : -4 ≤ v ∧ v ≤ 40 ∧ (v = -4 ∨ 0 ≤ v)) : h_I (h_up σ 96 j v) := h_I_up h hv
theorem ty_97 {σ : h_S} (h : h_I σ) (j : Int) : -2147483648 ≤ σ 97 j ∧ σ 97 j ≤ 2147483647 := h 97 j
theorem in_97 {σ : h_S} (h : h_I σ) {j v : Int} (hv : -2147483648 ≤ v ∧ v ≤ 2147483647) : h_I (h_up σ 97 j v) := h_I_up h hv
theorem tf_98_1 {σ : h_S} (h : h_I σ) : 0 ≤ σ 98 1 ∧ σ 98 1 ≤ 6 := (h 98 1).1 rfl
theorem if_98_1 {σ : h_S} (h : h_I σ) {v : Int} (hv : 0 ≤ v ∧ v ≤ 6) : h_I (h_up σ 98 1 v) := h_I_up h (⟨fun _ => hv, fun e => absurd e (by decide), fun e => absurd e (by decide), fun e => absurd e (by decide), fun e => absurd e (by decide), fun e => absurd e (by decide), fun e => absurd e (by decide), fun e => absurd e (by decide), fun e => absurd e (by decide), fun e => absurd e (by decide), fun e => absurd e (by decide), fun e => absurd e (by decide), fun e => absurd e (by decide), fun e => absurd e (by decide), fun e => absurd e (by decide), fun e => absurd e (by decide), fun e => absurd e (by decide), fun e => absurd e (by decide), fun e => absurd e (by decide), fun e => absurd e (by decide), fun e => absurd e (by decide), fun e => absurd e (by decide)⟩)
theorem tf_98_2 {σ : h_S} (h : h_I σ) : 0 ≤ σ 98 2 ∧ σ 98 2 ≤ 3 := (h 98 2).2.1 rfl
theorem if_98_2 {σ : h_S} (h : h_I σ) {v : Int} (hv : 0 ≤ v ∧ v ≤ 3) : h_I (h_up σ 98 2 v) := h_I_up h (⟨fun e => absurd e (by decide), fun _ => hv, fun e => absurd e (by decide), fun e => absurd e (by decide), fun e => absurd e (by decide), fun e => absurd e (by decide), fun e => absurd e (by decide), fun e => absurd e (by decide), fun e => absurd e (by decide), fun e => absurd e (by decide), fun e => absurd e (by decide), fun e => absurd e (by decide), fun e => absurd e (by decide), fun e => absurd e (by decide), fun e => absurd e (by decide), fun e => absurd e (by decide), fun e => absurd e (by decide), fun e => absurd e (by decide), fun e => absurd e (by decide), fun e => absurd e (by decide), fun e => absurd e (by decide), fun e => absurd e (by decide)⟩)
theorem tf_98_5 {σ : h_S} (h : h_I σ) : 0 ≤ σ 98 5 ∧ σ 98 5 ≤ 6 := (h 98 5).2.2.1 rfl
theorem if_98_5 {σ : h_S} (h : h_I σ) {v : Int} (hv : 0 ≤ v ∧ v ≤ 6) : h_I (h_up σ 98 5 v) := h_I_up h (⟨fun e => absurd e (by decide), fun e => absurd e (by decide), fun _ => hv, fun e => absurd e (by decide), fun e => absurd e (by decide), fun e => absurd e (by decide), fun e => absurd e (by decide), fun e => absurd e (by decide), fun e => absurd e (by decide), fun e => absurd e (by decide), fun e => absurd e (by decide), fun e => absurd e (by decide), fun e => absurd e (by decide), fun e => absurd e (by decide), fun e => absurd e (by decide), fun e => absurd e (by decide), fun e => absurd e (by decide), fun e => absurd e (by decide), fun e => absurd e (by decide), fun e => absurd e (by decide), fun e => absurd e (by decide), fun e => absurd e (by decide)⟩)
theorem tf_98_6 {σ : h_S} (h : h_I σ) : 0 ≤ σ 98 6 ∧ σ 98 6 ≤ 3 := (h 98 6).2.2.2.1 rfl
theorem if_98_6 {σ : h_S} (h : h_I σ) {v : Int} (hv : 0 ≤ v ∧ v ≤ 3) : h_I (h_up σ 98 6 v) := h_I_up h (⟨fun e => absurd e (by decide), fun e => absurd e (by decide), fun e => absurd e (by decide), fun _ => hv, fun e => absurd e (by decide), fun e => absurd e (by decide), fun e => absurd e (by decide), fun e => absurd e (by decide), fun e => absurd e (by decide), fun e => absurd e (by decide), fun e => absurd e (by decide), fun e => absurd e (by decide), fun e => absurd e (by decide), fun e => absurd e (by decide), fun e => absurd e (by decide), fun e => absurd e (by decide), fun e => absurd e (by decide), fun e => absurd e (by decide), fun e => absurd e (by decide), fun e => absurd e (by decide), fun e => absurd e (by decide), fun e => absurd e (by decide)⟩)
theorem tf_98_7 {σ : h_S} (h : h_I σ) : 0 ≤ σ 98 7 ∧ σ 98 7 ≤ 1 := (h 98 7).2.2.2.2.1 rfl
theorem if_98_7 {σ : h_S} (h : h_I σ) {v : Int} (hv : 0 ≤ v ∧ v ≤ 1) : h_I (h_up σ 98 7 v) := h_I_up h (⟨fun e => absurd e (by decide), fun e => absurd e (by decide), fun e => absurd e (by decide), fun e => absurd e (by decide), fun _ => hv, fun e => absurd e (by decide), fun e => absurd e (by decide), fun e => absurd e (by decide), fun e => absurd e (by decide), fun e => absurd e (by decide), fun e => absurd e (by decide), fun e => absurd e (by decide), fun e => absurd e (by decide), fun e => absurd e (by decide), fun e => absurd e (by decide), fun e => absurd e (by decide), fun e => absurd e (by decide), fun e => absurd e (by decide), fun e => absurd e (by decide), fun e => absurd e (by decide), fun e => absurd e (by decide), fun e => absurd e (by decide)⟩)
theorem tf_98_8 {σ : h_S} (h : h_I σ) : -1 ≤ σ 98 8 ∧ σ 98 8 ≤ 5 := (h 98 8).2.2.2.2.2.1 rfl
theorem if_98_8 {σ : h_S} (h : h_I σ) {v : Int} (hv : -1 ≤ v ∧ v ≤ 5) : h_I (h_up σ 98 8 v) := h_I_up h (⟨fun e => absurd e (by decide), fun e => absurd e (by decide), fun e => absurd e (by decide), fun e => absurd e (by decide), fun e => absurd e (by decide), fun _ => hv, fun e => absurd e (by decide), fun e => absurd e (by decide), fun e => absurd e (by decide), fun e => absurd e (by decide), fun e => absurd e (by decide), fun e => absurd e (by decide), fun e => absurd e (by decide), fun e => absurd e (by decide), fun e => absurd e (by decide), fun e => absurd e (by decide), fun e => absurd e (by decide), fun e => absurd e (by decide), fun e => absurd e (by decide), fun e => absurd e (by decide), fun e => absurd e (by decide), fun e => absurd e (by decide)⟩)
theorem tf_98_9 {σ : h_S} (h : h_I σ) : -1 ≤ σ 98 9 ∧ σ 98 9 ≤ 2 := (h 98 9).2.2.2.2.2.2.1 rfl
theorem if_98_9 {σ : h_S} (h : h_I σ) {v : Int} (hv : -1 ≤ v ∧ v ≤ 2) : h_I (h_up σ 98 9 v) := h_I_up h (⟨fun e => absurd e (by decide), fun e => absurd e (by decide), fun e => absurd e (by decide), fun e => absurd e (by decide), fun e => absurd e (by decide), fun e => absurd e (by decide), fun _ => hv, fun e => absurd e (by decide), fun e => absurd e (by decide), fun e => absurd e (by decide), fun e => absurd e (by decide), fun e => absurd e (by decide), fun e => absurd e (by decide), fun e => absurd e (by decide), fun e => absurd e (by decide), fun e => absurd e (by decide), fun e => absurd e (by decide), fun e => absurd e (by decide), fun e => absurd e (by decide), fun e => absurd e (by decide), fun e => absurd e (by decide), fun e => absurd e (by decide)⟩)
theorem tf_98_11 {σ : h_S} (h : h_I σ) : 0 ≤ σ 98 11 ∧ σ 98 11 ≤ 160 := (h 98 11).2.2.2.2.2.2.2.1 rfl
theorem if_98_11 {σ : h_S} (h : h_I σ) {v : Int} (hv : 0 ≤ v ∧ v ≤ 160) : h_I (h_up σ 98 11 v) := h_I_up h (⟨fun e => absurd e (by decide), fun e => absurd e (by decide), fun e => absurd e (by decide), fun e => absurd e (by decide), fun e => absurd e (by decide), fun e => absurd e (by decide), fun e => absurd e (by decide), fun _ => hv, fun e => absurd e (by decide), fun e => absurd e (by decide), fun e => absurd e (by decide), fun e => absurd e (by decide), fun e => absurd e (by decide), fun e => absurd e (by decide), fun e => absurd e (by decide), fun e => absurd e (by decide), fun e => absurd e (by decide), fun e => absurd e (by decide), fun e => absurd e (by decide), fun e => absurd e (by decide), fun e => absurd e (by decide), fun e => absurd e (by decide)⟩)
theorem tf_98_12 {σ : h_S} (h : h_I σ) : -2147483648 ≤ σ 98 12 ∧ σ 98 12 ≤ 2147483647 := (h 98 12).2.2.2.2.2.2.2.2.1 rfl
theorem if_98_12 {σ : h_S} (h : h_I σ) {v : Int} (hv : -2147483648 ≤ v ∧ v ≤ 2147483647) : h_I (h_up σ 98 12 v) := h_I_up h (⟨fun e => absurd e (by decide), fun e => absurd e (by decide), fun e => absurd e (by decide), fun e => absurd e (by decide), fun e => absurd e (by decide), fun e => absurd e (by decide), fun e => absurd e (by decide), fun e => absurd e (by decide), fun _ => hv, fun e => absurd e (by decide), fun e => absurd e (by decide), fun e => absurd e (by decide), fun e => absurd e (by decide), fun e => absurd e (by decide), fun e => absurd e (by decide), fun e => absurd e (by decide), fun e => absurd e (by decide), fun e => absurd e (by decide), fun e => absurd e (by decide), fun e => absurd e (by decide), fun e => absurd e (by decide), fun e => absurd e (by decide)⟩)
theorem tf_98_13 {σ : h_S} (h : h_I σ) : 0 ≤ σ 98 13 ∧ σ 98 13 ≤ 6 := (h 98 13).2.2.2.2.2.2.2.2.2.1 rfl
theorem if_98_13 {σ : h_S} (h : h_I σ) {v : Int} (hv : 0 ≤ v ∧ v ≤ 6) : h_I (h_up σ 98 13 v) := h_I_up h (⟨fun e => absurd e (by decide), fun e => absurd e (by decide), fun e => absurd e (by decide), fun e => absurd e (by decide), fun e => absurd e (by decide), fun e => absurd e (by decide), fun e => absurd e (by decide), fun e => absurd e (by decide), fun e => absurd e (by decide), fun _ => hv, fun e => absurd e (by decide), fun e => absurd e (by decide), fun e => absurd e (by decide), fun e => absurd e (by decide), fun e => absurd e (by decide), fun e => absurd e (by decide), fun e => absurd e (by decide), fun e => absurd e (by decide), fun e => absurd e (by decide), fun e => absurd e (by decide), fun e => absurd e (by decide), fun e => absurd e (by decide)⟩)
theorem tf_98_14 {σ : h_S} (h : h_I σ) : -2147483648 ≤ σ 98 14 ∧ σ 98 14 ≤ 2147483647 := (h 98 14).2.2.2.2.2.2.2.2.2.2.1 rfl
theorem if_98_14 {σ : h_S} (h : h_I σ) {v : Int} (hv : -2147483648 ≤ v ∧ v ≤ 2147483647) : h_I (h_up σ 98 14 v) := h_I_up h (⟨fun e => absurd e (by decide), fun e => absurd e (by decide), fun e => absurd e (by decide), fun e => absurd e (by decide), fun e => absurd e (by decide), fun e => absurd e (by decide), fun e => absurd e (by decide), fun e => absurd e (by decide), fun e => absurd e (by decide), fun e => absurd e (by decide), fun _ => hv, fun e => absurd e (by decide), fun e => absurd e (by decide), fun e => absurd e (by decide), fun e => absurd e (by decide), fun e => absurd e (by decide), fun e => absurd e (by decide), fun e => absurd e (by decide), fun e => absurd e (by decide), fun e => absurd e (by decide), fun e => absurd e (by decide), fun e => absurd e (by decide)⟩)
theorem tf_98_15 {σ : h_S} (h : h_I σ) : 0 ≤ σ 98 15 ∧ σ 98 15 ≤ 160 := (h 98 15).2.2.2.2.2.2.2.2.2.2.2.1 rfl
theorem if_98_15 {σ : h_S} (h : h_I σ) {v : Int} (hv : 0 ≤ v ∧ v ≤ 160) : h_I (h_up σ 98 15 v) := h_I_up h (⟨fun e => absurd e (by decide), fun e => absurd e (by decide), fun e => absurd e (by decide), fun e => absurd e (by decide), fun e => absurd e (by decide), fun e => absurd e (by decide), fun e => absurd e (by decide), fun e => absurd e (by decide), fun e => absurd e (by decide), fun e => absurd e (by decide), fun e => absurd e (by decide), fun _ => hv, fun e => absurd e (by decide), fun e => absurd e (by decide), fun e => absurd e (by decide), fun e => absurd e (by decide), fun e => absurd e (by decide), fun e => absurd e (by decide), fun e => absurd e (by decide), fun e => absurd e (by decide), fun e => absurd e (by decide), fun e => absurd e (by decide)⟩)
theorem tf_98_16 {σ : h_S} (h : h_I σ) : 0 ≤ σ 98 16 ∧ σ 98 16 ≤ 160 := (h 98 16).2.2.2.2.2.2.2.2.2.2.2.2.1 rfl
theorem if_98_16 {σ : h_S} (h : h_I σ) {v : Int} (hv : 0 ≤ v ∧ v ≤ 160) : h_I (h_up σ 98 16 v) := h_I_up h (⟨fun e => absurd e (by decide), fun e => absurd e (by decide), fun e => absurd e (by decide), fun e => absurd e (by decide), fun e => absurd e (by decide), fun e => absurd e (by decide), fun e => absurd e (by decide), fun e => absurd e (by decide), fun e => absurd e (by decide), fun e => absurd e (by decide), fun e => absurd e (by decide), fun e => absurd e (by decide), fun _ => hv, fun e => absurd e (by decide), fun e => absurd e (by decide), fun e => absurd e (by decide), fun e => absurd e (by decide), fun e => absurd e (by decide), fun e => absurd e (by decide), fun e => absurd e (by decide), fun e => absurd e (by decide), fun e => absurd e (by decide)⟩)
theorem tf_98_17 {σ : h_S} (h : h_I σ) : 0 ≤ σ 98 17 ∧ σ 98 17 ≤ 3 := (h 98 17).2.2.2.2.2.2.2.2.2.2.2.2.2.1 rfl
theorem if_98_17 {σ : h_S} (h : h_I σ) {v : Int} (hv : 0 ≤ v ∧ v ≤ 3) : h_I (h_up σ 98 17 v) := h_I_up h (⟨fun e => absurd e (by decide), fun e => absurd e (by decide), fun e => absurd e (by decide), fun e => absurd e (by decide), fun e => absurd e (by decide), fun e => absurd e (by decide), fun e => absurd e (by decide), fun e => absurd e (by decide), fun e => absurd e (by decide), fun e => absurd e (by decide), fun e => absurd e (by decide), fun e => absurd e (by decide), fun e => absurd e (by decide), fun _ => hv, fun e => absurd e (by decide), fun e => absurd e (by decide), fun e => absurd e (by decide), fun e => absurd e (by decide), fun e => absurd e (by decide), fun e => absurd e (by decide), fun e => absurd e (by decide), fun e => absurd e (by decide)⟩)
theorem tf_98_18 {σ : h_S} (h : h_I σ) : 0 ≤ σ 98 18 ∧ σ 98 18 ≤ 99 := (h 98 18).2.2.2.2.2.2.2.2.2.2.2.2.2.2.1 rfl
theorem if_98_18 {σ : h_S} (h : h_I σ) {v : Int} (hv : 0 ≤ v ∧ v ≤ 99) : h_I (h_up σ 98 18 v) := h_I_up h (⟨fun e => absurd e (by decide), fun e => absurd e (by decide), fun e => absurd e (by decide), fun e => absurd e (by decide), fun e => absurd e (by decide), fun e => absurd e (by decide), fun e => absurd e (by decide), fun e => absurd e (by decide), fun e => absurd e (by decide), fun e => absurd e (by decide), fun e => absurd e (by decide), fun e => absurd e (by decide), fun e => absurd e (by decide), fun e => absurd e (by decide), fun _ => hv, fun e => absurd e (by decide), fun e => absurd e (by decide), fun e => absurd e (by decide), fun e => absurd e (by decide), fun e => absurd e (by decide), fun e => absurd e (by decide), fun e => absurd e (by decide)⟩)
theorem tf_98_22 {σ : h_S} (h : h_I σ) : -2147483648 ≤ σ 98 22 ∧ σ 98 22 ≤ 2147483647 := (h 98 22).2.2.2.2.2.2.2.2.2.2.2.2.2.2.2.1 rfl
theorem if_98_22 {σ : h_S} (h : h_I σ) {v : Int} (hv : -2147483648 ≤ v ∧ v ≤ 2147483647) : h_I (h_up σ 98 22 v) := h_I_up h (⟨fun e => absurd e (by decide), fun e => absurd e (by decide), fun e => absurd e (by decide), fun e => absurd e (by decide), fun e => absurd e (by decide), fun e => absurd e (by decide), fun e => absurd e (by decide), fun e => absurd e (by decide), fun e => absurd e (by decide), fun e => absurd e (by decide), fun e => absurd e (by decide), fun e => absurd e (by decide), fun e => absurd e (by decide), fun e => absurd e (by decide), fun e => absurd e (by decide), fun _ => hv, fun e => absurd e (by decide), fun e => absurd e (by decide), fun e => absurd e (by decide), fun e => absurd e (by decide), fun e => absurd e (by decide), fun e => absurd e (by decide)⟩)
theorem tf_98_23 {σ : h_S} (h : h_I σ) : -2147483648 ≤ σ 98 23 ∧ σ 98 23 ≤ 2147483647 := (h 98 23).2.2.2.2.2.2.2.2.2.2.2.2.2.2.2.2.1 rfl
theorem if_98_23 {σ : h_S} (h : h_I σ) {v : Int} (hv : -2147483648 ≤ v ∧ v ≤ 2147483647) : h_I (h_up σ 98 23 v) := h_I_up h (⟨fun e => absurd e (by decide), fun e => absurd e (by decide), fun e => absurd e (by decide), fun e => absurd e (by decide), fun e => absurd e (by decide), fun e => absurd e (by decide), fun e => absurd e (by decide), fun e => absurd e (by decide), fun e => absurd e (by decide), fun e => absurd e (by decide), fun e => absurd e (by decide), fun e => absurd e (by decide), fun e => absurd e (by decide), fun e => absurd e (by decide), fun e => absurd e (by decide), fun e => absurd e (by decide), fun _ => hv, fun e => absurd e (by decide), fun e => absurd e (by decide), fun e => absurd e (by decide), fun e => absurd e (by decide), fun e => absurd e (by decide)⟩)
theorem tf_98_26 {σ : h_S} (h : h_I σ) : 0 ≤ σ 98 26 ∧ σ 98 26 ≤ 6 := (h 98 26).2.2.2.2.2.2.2.2.2.2.2.2.2.2.2.2.2.1 rfl
theorem if_98_26 {σ : h_S} (h : h_I σ) {v : Int} (hv : 0 ≤ v ∧ v ≤ 6) : h_I (h_up σ 98 26 v) := h_I_up h (⟨fun e => absurd e (by decide), fun e => absurd e (by decide), fun e => absurd e (by decide), fun e => absurd e (by decide), fun e => absurd e (by decide), fun e => absurd e (by decide), fun e => absurd e (by decide), fun e => absurd e (by decide), fun e => absurd e (by decide), fun e => absurd e (by decide), fun e => absurd e (by decide), fun e => absurd e (by decide), fun e => absurd e (by decide), fun e => absurd e (by decide), fun e => absurd e (by decide), fun e => absurd e (by decide), fun e => absurd e (by decide), fun _ => hv, fun e => absurd e (by decide), fun e => absurd e (by decide), fun e => absurd e (by decide), fun e => absurd e (by decide)⟩)
theorem tf_98_27 {σ : h_S} (h : h_I σ) : -2147483648 ≤ σ 98 27 ∧ σ 98 27 ≤ 2147483647 := (h 98 27).2.2.2.2.2.2.2.2.2.2.2.2.2.2.2.2.2.2.1 rfl
theorem if_98_27 {σ : h_S} (h : h_I σ) {v : Int} (hv : -2147483648 ≤ v ∧ v ≤ 2147483647) : h_I (h_up σ 98 27 v) := h_I_up h (⟨fun e => absurd e (by decide), fun e => absurd e (by decide), fun e => absurd e (by decide), fun e => absurd e (by decide), fun e => absurd e (by decide), fun e => absurd e (by decide), fun e => absurd e (by decide), fun e => absurd e (by decide), fun e => absurd e (by decide), fun e => absurd e (by decide), fun e => absurd e (by decide), fun e => absurd e (by decide), fun e => absurd e (by decide), fun e => absurd e (by decide), fun e => absurd e (by decide), fun e => absurd e (by decide), fun e => absurd e (by decide), fun e => absurd e (by decide), fun _ => hv, fun e => absurd e (by decide), fun e => absurd e (by decide), fun e => absurd e (by decide)⟩)
theorem tf_98_29 {σ : h_S} (h : h_I σ) : 0 ≤ σ 98 29 ∧ σ 98 29 ≤ 6 := (h 98 29).2.2.2.2.2.2.2.2.2.2.2.2.2.2.2.2.2.2.2.1 rfl
theorem if_98_29 {σ : h_S} (h : h_I σ) {v : Int} (hv : 0 ≤ v ∧ v ≤ 6) : h_I (h_up σ 98 29 v) := h_I_up h (⟨fun e => absurd e (by decide), fun e => absurd e (by decide), fun e => absurd e (by decide), fun e => absurd e (by decide), fun e => absurd e (by decide), fun e => absurd e (by decide), fun e => absurd e (by decide), fun e => absurd e (by decide), fun e => absurd e (by decide), fun e => absurd e (by decide), fun e => absurd e (by decide), fun e => absurd e (by decide), fun e => absurd e (by decide), fun e => absurd e (by decide), fun e => absurd e (by decide), fun e => absurd e (by decide), fun e => absurd e (by decide), fun e => absurd e (by decide), fun e => absurd e (by decide), fun _ => hv, fun e => absurd e (by decide), fun e => absurd e (by decide)⟩)
theorem tf_98_31 {σ : h_S} (h : h_I σ) : -2147483648 ≤ σ 98 31 ∧ σ 98 31 ≤ 2147483647 := (h 98 31).2.2.2.2.2.2.2.2.2.2.2.2.2.2.2.2.2.2.2.2.1 rfl
theorem if_98_31 {σ : h_S} (h : h_I σ) {v : Int} (hv : -2147483648 ≤ v ∧ v ≤ 2147483647) : h_I (h_up σ 98 31 v) := h_I_up h (⟨fun e => absurd e (by decide), fun e => absurd e (by decide), fun e => absurd e (by decide), fun e => absurd e (by decide), fun e => absurd e (by decide), fun e => absurd e (by decide), fun e => absurd e (by decide), fun e => absurd e (by decide), fun e => absurd e (by decide), fun e => absurd e (by decide), fun e => absurd e (by decide), fun e => absurd e (by decide), fun e => absurd e (by decide), fun e => absurd e (by decide), fun e => absurd e (by decide), fun e => absurd e (by decide), fun e => absurd e (by decide), fun e => absurd e (by decide), fun e => absurd e (by decide), fun e => absurd e (by decide), fun _ => hv, fun e => absurd e (by decide)⟩)
theorem tf_98_36 {σ : h_S} (h : h_I σ) : -2147483648 ≤ σ 98 36 ∧ σ 98 36 ≤ 2147483647 := (h 98 36).2.2.2.2.2.2.2.2.2.2.2.2.2.2.2.2.2.2.2.2.2 rfl
theorem if_98_36 {σ : h_S} (h : h_I σ) {v : Int} (hv : -2147483648 ≤ v ∧ v ≤ 2147483647) : h_I (h_up σ 98 36 v) := h_I_up h (⟨fun e => absurd e (by decide), fun e => absurd e (by decide), fun e => absurd e (by decide), fun e => absurd e (by decide), fun e => absurd e (by decide), fun e => absurd e (by decide), fun e => absurd e (by decide), fun e => absurd e (by decide), fun e => absurd e (by decide), fun e => absurd e (by decide), fun e => absurd e (by decide), fun e => absurd e (by decide), fun e => absurd e (by decide), fun e => absurd e (by decide), fun e => absurd e (by decide), fun e => absurd e (by decide), fun e => absurd e (by decide), fun e => absurd e (by decide), fun e => absurd e (by decide), fun e => absurd e (by decide), fun e => absurd e (by decide), fun _ => hv⟩)
theorem ty_99_0 {σ : h_S} (h : h_I σ) (j : Int) (hj : 0 ≤ j % 44 ∧ j % 44 < 6) : 0 ≤ σ 99 j ∧ σ 99 j ≤ 3 := (h 99 j).1 hj
theorem ty_99_1 {σ : h_S} (h : h_I σ) (j : Int) (hj : 6 ≤ j % 44 ∧ j % 44 < 12) : 0 ≤ σ 99 j ∧ σ 99 j ≤ 6 := (h 99 j).2.1 hj
theorem ty_99_2 {σ : h_S} (h : h_I σ) (j : Int) (hj : 12 ≤ j % 44 ∧ j % 44 < 18) : 0 ≤ σ 99 j ∧ σ 99 j ≤ 5 := (h 99 j).2.2.1 hj
theorem ty_99_3 {σ : h_S} (h : h_I σ) (j : Int) (hj : 18 ≤ j % 44 ∧ j % 44 < 19) : 0 ≤ σ 99 j ∧ σ 99 j ≤ 3 := (h 99 j).2.2.2.1 hj
theorem ty_99_4 {σ : h_S} (h : h_I σ) (j : Int) (hj : 19 ≤ j % 44 ∧ j % 44 < 25) : 0 ≤ σ 99 j ∧ σ 99 j ≤ 5 := (h 99 j).2.2.2.2.1 hj
theorem ty_99_5 {σ : h_S} (h : h_I σ) (j : Int) (hj : 25 ≤ j % 44 ∧ j % 44 < 26) : 0 ≤ σ 99 j ∧ σ 99 j ≤ 3 := (h 99 j).2.2.2.2.2.1 hj
theorem ty_99_6 {σ : h_S} (h : h_I σ) (j : Int) (hj : 26 ≤ j % 44 ∧ j % 44 < 29) : 0 ≤ σ 99 j ∧ σ 99 j ≤ 9 := (h 99 j).2.2.2.2.2.2.1 hj
theorem ty_99_7 {σ : h_S} (h : h_I σ) (j : Int) (hj : 29 ≤ j % 44 ∧ j % 44 < 32) : 0 ≤ σ 99 j ∧ σ 99 j ≤ 6 := (h 99 j).2.2.2.2.2.2.2.1 hj
theorem ty_99_8 {σ : h_S} (h : h_I σ) (j : Int) (hj : 32 ≤ j % 44 ∧ j % 44 < 35) : 0 ≤ σ 99 j ∧ σ 99 j ≤ 999 := (h 99 j).2.2.2.2.2.2.2.2.1 hj
theorem ty_99_9 {σ : h_S} (h : h_I σ) (j : Int) (hj : 35 ≤ j % 44 ∧ j % 44 < 43) : 0 ≤ σ 99 j ∧ σ 99 j ≤ 52 ∧ σ 99 j % 10 ≤ 2 := (h 99 j).2.2.2.2.2.2.2.2.2.1 hj
theorem ty_99_10 {σ : h_S} (h : h_I σ) (j : Int) (hj : 43 ≤ j % 44 ∧ j % 44 < 44) : 0 ≤ σ 99 j ∧ σ 99 j ≤ 8 := (h 99 j).2.2.2.2.2.2.2.2.2.2 hj
theorem in_99 {σ : h_S} (h : h_I σ) {j v : Int} (hv : ((0 ≤ j % 44 ∧ j % 44 < 6) → 0 ≤ v ∧ v ≤ 3) ∧ ((6 ≤ j % 44 ∧ j % 44 < 12) → 0 ≤ v ∧ v ≤ 6) ∧ ((12 ≤ j % 44 ∧ j % 44 < 18) → 0 ≤ v ∧ v ≤ 5) ∧ ((18 ≤ j % 44 ∧ j % 44 < 19) → 0 ≤ v ∧ v ≤ 3) ∧ ((19 ≤ j % 44 ∧ j % 44 < 25) → 0 ≤ v ∧ v ≤ 5) ∧ ((25 ≤ j % 44 ∧ j % 44 < 26) → 0 ≤ v ∧ v ≤ 3) ∧ ((26 ≤ j % 44 ∧ j % 44 < 29) → 0 ≤ v ∧ v ≤ 9) ∧ ((29 ≤ j % 44 ∧ j % 44 < 32) → 0 ≤ v ∧ v ≤ 6) ∧ ((32 ≤ j % 44 ∧ j % 44 < 35) → 0 ≤ v ∧ v ≤ 999) ∧ ((35 ≤ j % 44 ∧ j % 44 < 43) → 0 ≤ v ∧ v ≤ 52 ∧ v % 10 ≤ 2) ∧ ((43 ≤ j % 44 ∧ j % 44 < 44) → 0 ≤ v ∧ v ≤ 8)) : h_I (h_up σ 99 j v) := h_I_up h hv
theorem ty_100 {σ : h_S} (h : h_I σ) (j : Int) : 0 ≤ σ 100 j ∧ σ 100 j ≤ 4 := h 100 j
theorem ty_101_3 {σ : h_S} (h : h_I σ) (j : Int) (hj : 18 ≤ j % 44 ∧ j % 44 < 19) : 0 ≤ σ 101 j ∧ σ 101 j ≤ 3 := (h 101 j).2.2.2.1 hj
theorem ty_101_5 {σ : h_S} (h : h_I σ) (j : Int) (hj : 25 ≤ j % 44 ∧ j % 44 < 26) : 0 ≤ σ 101 j ∧ σ 101 j ≤ 3 := (h 101 j).2.2.2.2.2.1 hj
theorem ty_101_10 {σ : h_S} (h : h_I σ) (j : Int) (hj : 43 ≤ j % 44 ∧ j % 44 < 44) : 0 ≤ σ 101 j ∧ σ 101 j ≤ 8 := (h 101 j).2.2.2.2.2.2.2.2.2.2 hj
theorem in_101 {σ : h_S} (h : h_I σ) {j v : Int} (hv : ((0 ≤ j % 44 ∧ j % 44 < 6) → 0 ≤ v ∧ v ≤ 3) ∧ ((6 ≤ j % 44 ∧ j % 44 < 12) → 0 ≤ v ∧ v ≤ 6) ∧ ((12 ≤ j % 44 ∧ j % 44 < 18) → 0 ≤ v ∧ v ≤ 5) ∧ ((18 ≤ j % 44 ∧ j % 44 < 19) → 0 ≤ v ∧ v ≤ 3) ∧ ((19 ≤ j % 44 ∧ j % 44 < 25) → 0 ≤ v ∧ v ≤ 5) ∧ ((25 ≤ j % 44 ∧ j % 44 < 26) → 0 ≤ v ∧ v ≤ 3) ∧ ((26 ≤ j % 44 ∧ j % 44 < 29) → 0 ≤ v ∧ v ≤ 9) ∧ ((29 ≤ j % 44 ∧ j % 44 < 32) → 0 ≤ v ∧ v ≤ 6) ∧ ((32 ≤ j % 44 ∧ j % 44 < 35) → 0 ≤ v ∧ v ≤ 999) ∧ ((35 ≤ j % 44 ∧ j % 44 < 43) → 0 ≤ v ∧ v ≤ 52 ∧ v % 10 ≤ 2) ∧ ((43 ≤ j % 44 ∧ j % 44 < 44) → 0 ≤ v ∧ v ≤ 8)) : h_I (h_up σ 101 j v) := h_I_up h hv
theorem ty_102 {σ : h_S} (h : h_I σ) (j : Int) : 0 ≤ σ 102 j ∧ σ 102 j ≤ 127 := h 102 j
theorem in_102 {σ : h_S} (h : h_I σ) {j v : Int} (hv : 0 ≤ v ∧ v ≤ 127) : h_I (h_up σ 102 j v) := h_I_up h hv
theorem ty_103 {σ : h_S} (h : h_I σ) (j : Int) : 0 ≤ σ 103 j ∧ σ 103 j ≤ 44 := (h 103 j).1
theorem tx_103_0 {σ : h_S} (h : h_I σ) : σ 103 0 = 0 := (h 103 0).2.1 rfl
theorem tx_103_1 {σ : h_S} (h : h_I σ) : σ 103 1 = 5 := (h 103 1).2.2.1 rfl
theorem tx_103_2 {σ : h_S} (h : h_I σ) : σ 103 2 = 12 := (h 103 2).2.2.2.1 rfl
theorem tx_103_3 {σ : h_S} (h : h_I σ) : σ 103 3 = 19 := (h 103 3).2.2.2.2.1 rfl
theorem tx_103_4 {σ : h_S} (h : h_I σ) : σ 103 4 = 27 := (h 103 4).2.2.2.2.2.1 rfl
theorem tx_103_5 {σ : h_S} (h : h_I σ) : σ 103 5 = 32 := (h 103 5).2.2.2.2.2.2.1 rfl
theorem tx_103_6 {σ : h_S} (h : h_I σ) : σ 103 6 = 36 := (h 103 6).2.2.2.2.2.2.2.1 rfl
theorem tx_103_7 {σ : h_S} (h : h_I σ) : σ 103 7 = 40 := (h 103 7).2.2.2.2.2.2.2.2.1 rfl
theorem tx_103_8 {σ : h_S} (h : h_I σ) : σ 103 8 = 44 := (h 103 8).2.2.2.2.2.2.2.2.2 rfl
theorem ty_104 {σ : h_S} (h : h_I σ) (j : Int) : -2147483648 ≤ σ 104 j ∧ σ 104 j ≤ 2147483647 := (h 104 j).1
theorem tx_104_0 {σ : h_S} (h : h_I σ) : σ 104 0 = 112 := (h 104 0).2.1 rfl
theorem tx_104_1 {σ : h_S} (h : h_I σ) : σ 104 1 = 108 := (h 104 1).2.2.1 rfl
theorem tx_104_2 {σ : h_S} (h : h_I σ) : σ 104 2 = 97 := (h 104 2).2.2.2.1 rfl
theorem tx_104_3 {σ : h_S} (h : h_I σ) : σ 104 3 = 105 := (h 104 3).2.2.2.2.1 rfl
theorem tx_104_4 {σ : h_S} (h : h_I σ) : σ 104 4 = 110 := (h 104 4).2.2.2.2.2.1 rfl
theorem tx_104_5 {σ : h_S} (h : h_I σ) : σ 104 5 = 97 := (h 104 5).2.2.2.2.2.2.1 rfl
theorem tx_104_6 {σ : h_S} (h : h_I σ) : σ 104 6 = 100 := (h 104 6).2.2.2.2.2.2.2.1 rfl
theorem tx_104_7 {σ : h_S} (h : h_I σ) : σ 104 7 = 111 := (h 104 7).2.2.2.2.2.2.2.2.1 rfl
theorem tx_104_8 {σ : h_S} (h : h_I σ) : σ 104 8 = 112 := (h 104 8).2.2.2.2.2.2.2.2.2.1 rfl
theorem tx_104_9 {σ : h_S} (h : h_I σ) : σ 104 9 = 116 := (h 104 9).2.2.2.2.2.2.2.2.2.2.1 rfl
theorem tx_104_10 {σ : h_S} (h : h_I σ) : σ 104 10 = 101 := (h 104 10).2.2.2.2.2.2.2.2.2.2.2.1 rfl
theorem tx_104_11 {σ : h_S} (h : h_I σ) : σ 104 11 = 100 := (h 104 11).2.2.2.2.2.2.2.2.2.2.2.2.1 rfl
theorem tx_104_12 {σ : h_S} (h : h_I σ) : σ 104 12 = 98 := (h 104 12).2.2.2.2.2.2.2.2.2.2.2.2.2.1 rfl
theorem tx_104_13 {σ : h_S} (h : h_I σ) : σ 104 13 = 97 := (h 104 13).2.2.2.2.2.2.2.2.2.2.2.2.2.2.1 rfl
theorem tx_104_14 {σ : h_S} (h : h_I σ) : σ 104 14 = 115 := (h 104 14).2.2.2.2.2.2.2.2.2.2.2.2.2.2.2.1 rfl
theorem tx_104_15 {σ : h_S} (h : h_I σ) : σ 104 15 = 116 := (h 104 15).2.2.2.2.2.2.2.2.2.2.2.2.2.2.2.2.1 rfl
theorem tx_104_16 {σ : h_S} (h : h_I σ) : σ 104 16 = 97 := (h 104 16).2.2.2.2.2.2.2.2.2.2.2.2.2.2.2.2.2.1 rfl
theorem tx_104_17 {σ : h_S} (h : h_I σ) : σ 104 17 = 114 := (h 104 17).2.2.2.2.2.2.2.2.2.2.2.2.2.2.2.2.2.2.1 rfl
theorem tx_104_18 {σ : h_S} (h : h_I σ) : σ 104 18 = 100 := (h 104 18).2.2.2.2.2.2.2.2.2.2.2.2.2.2.2.2.2.2.2.1 rfl
theorem tx_104_19 {σ : h_S} (h : h_I σ) : σ 104 19 = 101 := (h 104 19).2.2.2.2.2.2.2.2.2.2.2.2.2.2.2.2.2.2.2.2.1 rfl
theorem tx_104_20 {σ : h_S} (h : h_I σ) : σ 104 20 = 115 := (h 104 20).2.2.2.2.2.2.2.2.2.2.2.2.2.2.2.2.2.2.2.2.2.1 rfl
theorem tx_104_21 {σ : h_S} (h : h_I σ) : σ 104 21 = 116 := (h 104 21).2.2.2.2.2.2.2.2.2.2.2.2.2.2.2.2.2.2.2.2.2.2.1 rfl
theorem tx_104_22 {σ : h_S} (h : h_I σ) : σ 104 22 = 114 := (h 104 22).2.2.2.2.2.2.2.2.2.2.2.2.2.2.2.2.2.2.2.2.2.2.2.1 rfl
theorem tx_104_23 {σ : h_S} (h : h_I σ) : σ 104 23 = 97 := (h 104 23).2.2.2.2.2.2.2.2.2.2.2.2.2.2.2.2.2.2.2.2.2.2.2.2.1 rfl
theorem tx_104_24 {σ : h_S} (h : h_I σ) : σ 104 24 = 110 := (h 104 24).2.2.2.2.2.2.2.2.2.2.2.2.2.2.2.2.2.2.2.2.2.2.2.2.2.1 rfl
theorem tx_104_25 {σ : h_S} (h : h_I σ) : σ 104 25 = 103 := (h 104 25).2.2.2.2.2.2.2.2.2.2.2.2.2.2.2.2.2.2.2.2.2.2.2.2.2.2.1 rfl
theorem tx_104_26 {σ : h_S} (h : h_I σ) : σ 104 26 = 101 := (h 104 26).2.2.2.2.2.2.2.2.2.2.2.2.2.2.2.2.2.2.2.2.2.2.2.2.2.2.2.1 rfl
theorem tx_104_27 {σ : h_S} (h : h_I σ) : σ 104 27 = 109 := (h 104 27).2.2.2.2.2.2.2.2.2.2.2.2.2.2.2.2.2.2.2.2.2.2.2.2.2.2.2.2.1 rfl
theorem tx_104_28 {σ : h_S} (h : h_I σ) : σ 104 28 = 97 := (h 104 28).2.2.2.2.2.2.2.2.2.2.2.2.2.2.2.2.2.2.2.2.2.2.2.2.2.2.2.2.2.1 rfl
theorem tx_104_29 {σ : h_S} (h : h_I σ) : σ 104 29 = 114 := (h 104 29).2.2.2.2.2.2.2.2.2.2.2.2.2.2.2.2.2.2.2.2.2.2.2.2.2.2.2.2.2.2.1 rfl
theorem tx_104_30 {σ : h_S} (h : h_I σ) : σ 104 30 = 114 := (h 104 30).2.2.2.2.2.2.2.2.2.2.2.2.2.2.2.2.2.2.2.2.2.2.2.2.2.2.2.2.2.2.2.1 rfl
theorem tx_104_31 {σ : h_S} (h : h_I σ) : σ 104 31 = 121 := (h 104 31).2.2.2.2.2.2.2.2.2.2.2.2.2.2.2.2.2.2.2.2.2.2.2.2.2.2.2.2.2.2.2.2.1 rfl
theorem tx_104_32 {σ : h_S} (h : h_I σ) : σ 104 32 = 102 := (h 104 32).2.2.2.2.2.2.2.2.2.2.2.2.2.2.2.2.2.2.2.2.2.2.2.2.2.2.2.2.2.2.2.2.2.1 rfl
theorem tx_104_33 {σ : h_S} (h : h_I σ) : σ 104 33 = 101 := (h 104 33).2.2.2.2.2.2.2.2.2.2.2.2.2.2.2.2.2.2.2.2.2.2.2.2.2.2.2.2.2.2.2.2.2.2.1 rfl
theorem tx_104_34 {σ : h_S} (h : h_I σ) : σ 104 34 = 117 := (h 104 34).2.2.2.2.2.2.2.2.2.2.2.2.2.2.2.2.2.2.2.2.2.2.2.2.2.2.2.2.2.2.2.2.2.2.2.1 rfl
theorem tx_104_35 {σ : h_S} (h : h_I σ) : σ 104 35 = 100 := (h 104 35).2.2.2.2.2.2.2.2.2.2.2.2.2.2.2.2.2.2.2.2.2.2.2.2.2.2.2.2.2.2.2.2.2.2.2.2.1 rfl
theorem tx_104_36 {σ : h_S} (h : h_I σ) : σ 104 36 = 103 := (h 104 36).2.2.2.2.2.2.2.2.2.2.2.2.2.2.2.2.2.2.2.2.2.2.2.2.2.2.2.2.2.2.2.2.2.2.2.2.2.1 rfl
theorem tx_104_37 {σ : h_S} (h : h_I σ) : σ 104 37 = 97 := (h 104 37).2.2.2.2.2.2.2.2.2.2.2.2.2.2.2.2.2.2.2.2.2.2.2.2.2.2.2.2.2.2.2.2.2.2.2.2.2.2.1 rfl
theorem tx_104_38 {σ : h_S} (h : h_I σ) : σ 104 38 = 116 := (h 104 38).2.2.2.2.2.2.2.2.2.2.2.2.2.2.2.2.2.2.2.2.2.2.2.2.2.2.2.2.2.2.2.2.2.2.2.2.2.2.2.1 rfl
theorem tx_104_39 {σ : h_S} (h : h_I σ) : σ 104 39 = 101 := (h 104 39).2.2.2.2.2.2.2.2.2.2.2.2.2.2.2.2.2.2.2.2.2.2.2.2.2.2.2.2.2.2.2.2.2.2.2.2.2.2.2.2.1 rfl
theorem tx_104_40 {σ : h_S} (h : h_I σ) : σ 104 40 = 112 := (h 104 40).2.2.2.2.2.2.2.2.2.2.2.2.2.2.2.2.2.2.2.2.2.2.2.2.2.2.2.2.2.2.2.2.2.2.2.2.2.2.2.2.2.1 rfl
theorem tx_104_41 {σ : h_S} (h : h_I σ) : σ 104 41 = 108 := (h 104 41).2.2.2.2.2.2.2.2.2.2.2.2.2.2.2.2.2.2.2.2.2.2.2.2.2.2.2.2.2.2.2.2.2.2.2.2.2.2.2.2.2.2.1 rfl
theorem tx_104_42 {σ : h_S} (h : h_I σ) : σ 104 42 = 97 := (h 104 42).2.2.2.2.2.2.2.2.2.2.2.2.2.2.2.2.2.2.2.2.2.2.2.2.2.2.2.2.2.2.2.2.2.2.2.2.2.2.2.2.2.2.2.1 rfl
theorem tx_104_43 {σ : h_S} (h : h_I σ) : σ 104 43 = 110 := (h 104 43).2.2.2.2.2.2.2.2.2.2.2.2.2.2.2.2.2.2.2.2.2.2.2.2.2.2.2.2.2.2.2.2.2.2.2.2.2.2.2.2.2.2.2.2 rfl
theorem ty_105 {σ : h_S} (h : h_I σ) (j : Int) : 0 ≤ σ 105 j ∧ σ 105 j ≤ 1000000 := h 105 j
theorem in_105 {σ : h_S} (h : h_I σ) {j v : Int} (hv : 0 ≤ v ∧ v ≤ 1000000) : h_I (h_up σ 105 j v) := h_I_up h hv
theorem ty_106 {σ : h_S} (h : h_I σ) (j : Int) : -1 ≤ σ 106 j ∧ σ 106 j ≤ 6 := h 106 j
theorem in_106 {σ : h_S} (h : h_I σ) {j v : Int} (hv : -1 ≤ v ∧ v ≤ 6) : h_I (h_up σ 106 j v) := h_I_up h hv
theorem ty_107 {σ : h_S} (h : h_I σ) (j : Int) : -2147483648 ≤ σ 107 j ∧ σ 107 j ≤ 2147483647 := h 107 j
theorem in_107 {σ : h_S} (h : h_I σ) {j v : Int} (hv : -2147483648 ≤ v ∧ v ≤ 2147483647) : h_I (h_up σ 107 j v) := h_I_up h hv
theorem ty_108 {σ : h_S} (h : h_I σ) (j : Int) : -2147483648 ≤ σ 108 j ∧ σ 108 j ≤ 2147483647 := h 108 j
theorem in_108 {σ : h_S} (h : h_I σ) {j v : Int} (hv : -2147483648 ≤ v ∧ v ≤ 2147483647) : h_I (h_up σ 108 j v) := h_I_up h hv
theorem ty_109 {σ : h_S} (h : h_I σ) (j : Int) : -2147483648 ≤ σ 109 j ∧ σ 109 j ≤ 2147483647 := h 109 j
theorem in_109 {σ : h_S} (h : h_I σ) {j v : Int} (hv : -2147483648 ≤ v ∧ v ≤ 2147483647) : h_I (h_up σ 109 j v) := h_I_up h hv
theorem ty_110 {σ : h_S} (h : h_I σ) (j : Int) : 0 ≤ σ 110 j ∧ σ 110 j ≤ 1 := h 110 j
theorem in_110 {σ : h_S} (h : h_I σ) {j v : Int} (hv : 0 ≤ v ∧ v ≤ 1) : h_I (h_up σ 110 j v) := h_I_up h hv
theorem ty_111 {σ : h_S} (h : h_I σ) (j : Int) : -4 ≤ σ 111 j ∧ σ 111 j ≤ 2 ∧ (σ 111 j = -4 ∨ 0 ≤ σ 111 j) := h 111 j
theorem in_111 {σ : h_S} (h : h_I σ) {j v : Int} (hv : -4 ≤ v ∧ v ≤ 2 ∧ (v = -4 ∨ 0 ≤ v)) : h_I (h_up σ 111 j v) := h_I_up h hv
theorem ty_112 {σ : h_S} (h : h_I σ) (j : Int) : 0 ≤ σ 112 j ∧ σ 112 j ≤ 40 := h 112 j
theorem in_112 {σ : h_S} (h : h_I σ) {j v : Int} (hv : 0 ≤ v ∧ v ≤ 40) : h_I (h_up σ 112 j v) := h_I_up h hv
theorem ty_113 {σ : h_S} (h : h_I σ) (j : Int) : -2147483648 ≤ σ 113 j ∧ σ 113 j ≤ 2147483647 := h 113 j
theorem in_113 {σ : h_S} (h : h_I σ) {j v : Int} (hv : -2147483648 ≤ v ∧ v ≤ 2147483647) : h_I (h_up σ 113 j v) := h_I_up h hv
def h_F (M : Nat → Int → Bool) (τ σ : h_S) : Prop := ∀ q j, M q j = false → τ q j = σ q j
theorem h_F.rf {M : Nat → Int → Bool} {σ : h_S} : h_F M σ σ := fun _ _ _ => rfl
theorem h_F.tr {M : Nat → Int → Bool} {σ τ υ : h_S} (h1 : h_F M υ τ) (h2 : h_F M τ σ) : h_F M υ σ := fun q j h => (h1 q j h).trans (h2 q j h)
theorem h_F.up {M : Nat → Int → Bool} {σ τ : h_S} {q : Nat} {a v : Int} (h : h_F M τ σ) (hm : M q a = true) : h_F M (h_up τ q a v) σ := by
  intro p i hp
  unfold h_up
  rw [if_neg (by rintro ⟨rfl, rfl⟩; rw [hm] at hp; cases hp)]
  exact h p i hp
theorem h_F.cp {M : Nat → Int → Bool} {σ τ : h_S} {q0 q n : Nat} (h : h_F M τ σ) (hm : ∀ a, M q a = true) : h_F M (h_cp τ q0 q n) σ := by
  intro p i hp
  unfold h_cp
  rw [if_neg (by rintro ⟨rfl, -⟩; rw [hm] at hp; cases hp)]
  exact h p i hp
theorem h_fg {P : e_Pg} {Y : h_L} {k pc : Nat} {L : List (Nat × Value)} {st : List Value} {Q : Option Value → h_S → Prop} {M : Nat → Int → Bool} {σ0 : h_S} (τ : h_S) (h1 : h_I τ) (h2 : h_F M τ σ0) (kk : ∀ τ, h_I τ → h_F M τ σ0 → h_T P Y k pc L st τ Q) : h_T P Y k pc L st τ Q := kk τ h1 h2
def k_sec (s : Nat) (j : Int) : Bool := bif Nat.beq s 0 then decide (0 ≤ j ∧ j < 6) else bif Nat.beq s 1 then decide (6 ≤ j ∧ j < 12) else bif Nat.beq s 2 then decide (12 ≤ j ∧ j < 18) else bif Nat.beq s 3 then decide (18 ≤ j ∧ j < 19) else bif Nat.beq s 4 then decide (19 ≤ j ∧ j < 25) else bif Nat.beq s 5 then decide (25 ≤ j ∧ j < 26) else bif Nat.beq s 6 then decide (26 ≤ j ∧ j < 29) else bif Nat.beq s 7 then decide (29 ≤ j ∧ j < 32) else bif Nat.beq s 8 then decide (32 ≤ j ∧ j < 35) else bif Nat.beq s 9 then decide (35 ≤ j ∧ j < 43) else bif Nat.beq s 10 then decide (43 ≤ j ∧ j < 44) else false
def k_at (c q : Nat) (j : Int) : Bool := bif Nat.beq (c / 1024) q then (bif Nat.beq (c % 1024) 1023 then true else bif Nat.blt (c % 1024) 512 then j == ((c % 1024 : Nat) : Int) else bif Nat.blt (c % 1024) 520 then decide ((((c % 1024 - 512) * 44 : Nat) : Int) ≤ j ∧ j < (((c % 1024 - 512) * 44 + 44 : Nat) : Int)) else k_sec (c % 1024 - 520) j) else false
def k_in : List Nat → Nat → Int → Bool
  | [], _, _ => false
  | c :: A, q, j => bif k_at c q j then true else k_in A q j
def k_has : List Nat → Nat → Bool
  | [], _ => false
  | c :: A, d => bif Nat.beq c d then true else k_has A d
def k_le : List Nat → List Nat → Bool
  | [], _ => true
  | c :: A, B => bif (k_has B c || (Nat.ble 101896 c && Nat.blt c 101907 && k_has B 101888)) then k_le A B else false
def k_osec (s : Nat) (l h : Int) : Bool := bif Nat.beq s 0 then (decide (6 ≤ l) || decide (h < 0)) else bif Nat.beq s 1 then (decide (12 ≤ l) || decide (h < 6)) else bif Nat.beq s 2 then (decide (18 ≤ l) || decide (h < 12)) else bif Nat.beq s 3 then (decide (19 ≤ l) || decide (h < 18)) else bif Nat.beq s 4 then (decide (25 ≤ l) || decide (h < 19)) else bif Nat.beq s 5 then (decide (26 ≤ l) || decide (h < 25)) else bif Nat.beq s 6 then (decide (29 ≤ l) || decide (h < 26)) else bif Nat.beq s 7 then (decide (32 ≤ l) || decide (h < 29)) else bif Nat.beq s 8 then (decide (35 ≤ l) || decide (h < 32)) else bif Nat.beq s 9 then (decide (43 ≤ l) || decide (h < 35)) else bif Nat.beq s 10 then (decide (44 ≤ l) || decide (h < 43)) else true
def k_out : List Nat → Nat → Int → Int → Bool
  | [], _, _, _ => true
  | c :: A, q, l, h => bif (bif Nat.beq (c / 1024) q then (bif Nat.beq (c % 1024) 1023 then false else bif Nat.blt (c % 1024) 512 then (decide (((c % 1024 : Nat) : Int) < l) || decide (h < ((c % 1024 : Nat) : Int))) else bif Nat.blt (c % 1024) 520 then (decide ((((c % 1024 - 512) * 44 + 44 : Nat) : Int) ≤ l) || decide (h < (((c % 1024 - 512) * 44 : Nat) : Int))) else k_osec (c % 1024 - 520) l h) else true) then k_out A q l h else false
theorem k_has_in {B : List Nat} {c q : Nat} {j : Int} (h : k_has B c = true) (hc : k_at c q j = true) : k_in B q j = true := by
  induction B with
  | nil => cases h
  | cons d B ih =>
    unfold k_has at h
    unfold k_in
    cases e : Nat.beq d c with
    | true =>
      have e := Nat.eq_of_beq_eq_true e
      subst e
      rw [hc]
      rfl
    | false =>
      rw [e] at h
      have h := ih h
      cases k_at d q j with
      | true => rfl
      | false => exact h
theorem k_sec_0 {s : Nat} {j : Int} (h : k_sec s j = true) : 0 ≤ j ∧ j < 44 := by
  unfold k_sec at h
  cases e0 : Nat.beq s 0 with
  | true => rw [e0] at h; (have h := of_decide_eq_true h); omega
  | false =>
  rw [e0] at h
  cases e1 : Nat.beq s 1 with
  | true => rw [e1] at h; (have h := of_decide_eq_true h); omega
  | false =>
  rw [e1] at h
  cases e2 : Nat.beq s 2 with
  | true => rw [e2] at h; (have h := of_decide_eq_true h); omega
  | false =>
  rw [e2] at h
  cases e3 : Nat.beq s 3 with
  | true => rw [e3] at h; (have h := of_decide_eq_true h); omega
  | false =>
  rw [e3] at h
  cases e4 : Nat.beq s 4 with
  | true => rw [e4] at h; (have h := of_decide_eq_true h); omega
  | false =>
  rw [e4] at h
  cases e5 : Nat.beq s 5 with
  | true => rw [e5] at h; (have h := of_decide_eq_true h); omega
  | false =>
  rw [e5] at h
  cases e6 : Nat.beq s 6 with
  | true => rw [e6] at h; (have h := of_decide_eq_true h); omega
  | false =>
  rw [e6] at h
  cases e7 : Nat.beq s 7 with
  | true => rw [e7] at h; (have h := of_decide_eq_true h); omega
  | false =>
  rw [e7] at h
  cases e8 : Nat.beq s 8 with
  | true => rw [e8] at h; (have h := of_decide_eq_true h); omega
  | false =>
  rw [e8] at h
  cases e9 : Nat.beq s 9 with
  | true => rw [e9] at h; (have h := of_decide_eq_true h); omega
  | false =>
  rw [e9] at h
  cases e10 : Nat.beq s 10 with
  | true => rw [e10] at h; (have h := of_decide_eq_true h); omega
  | false =>
  rw [e10] at h
  cases h
theorem k_pg0 {c q : Nat} {j : Int} (h1 : Nat.ble 101896 c = true) (h2 : Nat.blt c 101907 = true) (hc : k_at c q j = true) : k_at 101888 q j = true := by
  have h1 := Nat.le_of_ble_eq_true h1
  have h2 : c < 101907 := Nat.le_of_ble_eq_true h2
  unfold k_at at hc ⊢
  have e1 : c / 1024 = 99 := by omega
  have e2 : Nat.beq (c % 1024) 1023 = false := by cases e : Nat.beq (c % 1024) 1023 with | false => rfl | true => (have := Nat.eq_of_beq_eq_true e; omega)
  have e3 : Nat.blt (c % 1024) 512 = false := by cases e : Nat.blt (c % 1024) 512 with | false => rfl | true => (have : c % 1024 < 512 := Nat.le_of_ble_eq_true e; omega)
  have e4 : Nat.blt (c % 1024) 520 = false := by cases e : Nat.blt (c % 1024) 520 with | false => rfl | true => (have : c % 1024 < 520 := Nat.le_of_ble_eq_true e; omega)
  rw [e1, e2, e3, e4] at hc
  have e5 : 101888 / 1024 = 99 := by decide
  rw [e5]
  cases e : Nat.beq 99 q with
  | false => rw [e] at hc; cases hc
  | true =>
    rw [e] at hc
    simp only [cond_true, cond_false] at hc
    have hc := k_sec_0 hc
    exact decide_eq_true (by show (((0 : Nat) : Int)) ≤ j ∧ j < ((44 : Nat) : Int); omega)
theorem k_mono {A B : List Nat} (h : k_le A B = true) {q : Nat} {j : Int} (hi : k_in A q j = true) : k_in B q j = true := by
  induction A with
  | nil => cases hi
  | cons c A ih =>
    unfold k_le at h
    unfold k_in at hi
    cases hg : (k_has B c || (Nat.ble 101896 c && Nat.blt c 101907 && k_has B 101888)) with
    | false => rw [hg] at h; cases h
    | true =>
      rw [hg] at h
      cases e : k_at c q j with
      | false => rw [e] at hi; exact ih h hi
      | true =>
        rcases Bool.or_eq_true_iff.mp hg with g | g
        · exact k_has_in g e
        · rw [Bool.and_eq_true, Bool.and_eq_true] at g
          exact k_has_in g.2 (k_pg0 g.1.1 g.1.2 e)
theorem h_F.mono {A B : List Nat} {τ σ : h_S} (h : h_F (k_in A) τ σ) (hs : k_le A B = true) : h_F (k_in B) τ σ := fun q j hm => h q j (by
  cases e : k_in A q j with
  | false => rfl
  | true => rw [k_mono hs e] at hm; cases hm)
theorem k_no {A : List Nat} {q : Nat} {l h j : Int} (ho : k_out A q l h = true) (h1 : l ≤ j) (h2 : j ≤ h) : k_in A q j = false := by
  induction A with
  | nil => rfl
  | cons c A ih =>
    unfold k_out at ho
    unfold k_in k_at
    cases e0 : Nat.beq (c / 1024) q with
    | false => rw [e0] at ho; exact ih ho
    | true =>
      rw [e0] at ho
      cases e1 : Nat.beq (c % 1024) 1023 with
      | true => rw [e1] at ho; cases ho
      | false =>
        rw [e1] at ho
        cases e2 : Nat.blt (c % 1024) 512 with
        | true =>
          rw [e2] at ho
          dsimp only [cond_true, cond_false] at ho ⊢
          cases e3 : (decide (((c % 1024 : Nat) : Int) < l) || decide (h < ((c % 1024 : Nat) : Int))) with
          | false => rw [e3] at ho; cases ho
          | true =>
            rw [e3] at ho
            have hn : (j == ((c % 1024 : Nat) : Int)) = false := by
              rw [beq_eq_false_iff_ne]
              intro e
              rcases Bool.or_eq_true_iff.mp e3 with g | g
              · have := of_decide_eq_true g; omega
              · have := of_decide_eq_true g; omega
            rw [hn]
            exact ih ho
        | false =>
          rw [e2] at ho
          dsimp only [cond_true, cond_false] at ho ⊢
          cases e4 : Nat.blt (c % 1024) 520 with
          | true =>
            rw [e4] at ho
            dsimp only [cond_true, cond_false] at ho ⊢
            cases e3 : (decide ((((c % 1024 - 512) * 44 + 44 : Nat) : Int) ≤ l) || decide (h < (((c % 1024 - 512) * 44 : Nat) : Int))) with
            | false => rw [e3] at ho; cases ho
            | true =>
              rw [e3] at ho
              have hn : decide ((((c % 1024 - 512) * 44 : Nat) : Int) ≤ j ∧ j < (((c % 1024 - 512) * 44 + 44 : Nat) : Int)) = false := by
                apply decide_eq_false
                intro e
                rcases Bool.or_eq_true_iff.mp e3 with g | g
                · have := of_decide_eq_true g; omega
                · have := of_decide_eq_true g; omega
              rw [hn]
              exact ih ho
          | false =>
            rw [e4] at ho
            dsimp only [cond_true, cond_false] at ho ⊢
            cases e3 : k_osec (c % 1024 - 520) l h with
            | false => rw [e3] at ho; cases ho
            | true =>
              rw [e3] at ho
              have hn : k_sec (c % 1024 - 520) j = false := by
                generalize c % 1024 - 520 = s at e3
                unfold k_osec at e3
                unfold k_sec
                cases g0 : Nat.beq s 0 with
                | true =>
                  rw [g0] at e3
                  apply decide_eq_false
                  intro e
                  rcases Bool.or_eq_true_iff.mp e3 with g | g
                  · have := of_decide_eq_true g; omega
                  · have := of_decide_eq_true g; omega
                | false =>
                rw [g0] at e3
                dsimp only [cond_true, cond_false] at e3 ⊢
                cases g1 : Nat.beq s 1 with
                | true =>
                  rw [g1] at e3
                  apply decide_eq_false
                  intro e
                  rcases Bool.or_eq_true_iff.mp e3 with g | g
                  · have := of_decide_eq_true g; omega
                  · have := of_decide_eq_true g; omega
                | false =>
                rw [g1] at e3
                dsimp only [cond_true, cond_false] at e3 ⊢
                cases g2 : Nat.beq s 2 with
                | true =>
                  rw [g2] at e3
                  apply decide_eq_false
                  intro e
                  rcases Bool.or_eq_true_iff.mp e3 with g | g
                  · have := of_decide_eq_true g; omega
                  · have := of_decide_eq_true g; omega
                | false =>
                rw [g2] at e3
                dsimp only [cond_true, cond_false] at e3 ⊢
                cases g3 : Nat.beq s 3 with
                | true =>
                  rw [g3] at e3
                  apply decide_eq_false
                  intro e
                  rcases Bool.or_eq_true_iff.mp e3 with g | g
                  · have := of_decide_eq_true g; omega
                  · have := of_decide_eq_true g; omega
                | false =>
                rw [g3] at e3
                dsimp only [cond_true, cond_false] at e3 ⊢
                cases g4 : Nat.beq s 4 with
                | true =>
                  rw [g4] at e3
                  apply decide_eq_false
                  intro e
                  rcases Bool.or_eq_true_iff.mp e3 with g | g
                  · have := of_decide_eq_true g; omega
                  · have := of_decide_eq_true g; omega
                | false =>
                rw [g4] at e3
                dsimp only [cond_true, cond_false] at e3 ⊢
                cases g5 : Nat.beq s 5 with
                | true =>
                  rw [g5] at e3
                  apply decide_eq_false
                  intro e
                  rcases Bool.or_eq_true_iff.mp e3 with g | g
                  · have := of_decide_eq_true g; omega
                  · have := of_decide_eq_true g; omega
                | false =>
                rw [g5] at e3
                dsimp only [cond_true, cond_false] at e3 ⊢
                cases g6 : Nat.beq s 6 with
                | true =>
                  rw [g6] at e3
                  apply decide_eq_false
                  intro e
                  rcases Bool.or_eq_true_iff.mp e3 with g | g
                  · have := of_decide_eq_true g; omega
                  · have := of_decide_eq_true g; omega
                | false =>
                rw [g6] at e3
                dsimp only [cond_true, cond_false] at e3 ⊢
                cases g7 : Nat.beq s 7 with
                | true =>
                  rw [g7] at e3
                  apply decide_eq_false
                  intro e
                  rcases Bool.or_eq_true_iff.mp e3 with g | g
                  · have := of_decide_eq_true g; omega
                  · have := of_decide_eq_true g; omega
                | false =>
                rw [g7] at e3
                dsimp only [cond_true, cond_false] at e3 ⊢
                cases g8 : Nat.beq s 8 with
                | true =>
                  rw [g8] at e3
                  apply decide_eq_false
                  intro e
                  rcases Bool.or_eq_true_iff.mp e3 with g | g
                  · have := of_decide_eq_true g; omega
                  · have := of_decide_eq_true g; omega
                | false =>
                rw [g8] at e3
                dsimp only [cond_true, cond_false] at e3 ⊢
                cases g9 : Nat.beq s 9 with
                | true =>
                  rw [g9] at e3
                  apply decide_eq_false
                  intro e
                  rcases Bool.or_eq_true_iff.mp e3 with g | g
                  · have := of_decide_eq_true g; omega
                  · have := of_decide_eq_true g; omega
                | false =>
                rw [g9] at e3
                dsimp only [cond_true, cond_false] at e3 ⊢
                cases g10 : Nat.beq s 10 with
                | true =>
                  rw [g10] at e3
                  apply decide_eq_false
                  intro e
                  rcases Bool.or_eq_true_iff.mp e3 with g | g
                  · have := of_decide_eq_true g; omega
                  · have := of_decide_eq_true g; omega
                | false =>
                rw [g10] at e3
                dsimp only [cond_true, cond_false] at e3 ⊢
              rw [hn]
              exact ih ho
theorem k_ipg {A : List Nat} {p : Nat} {j : Int} (hp : Nat.blt p 8 = true) (hm : k_has A (101888 + p) = true) (h : ((p * 44 : Nat) : Int) ≤ j ∧ j < ((p * 44 + 44 : Nat) : Int)) : k_in A 99 j = true := k_has_in hm (by
  have hp : p < 8 := Nat.le_of_ble_eq_true hp
  rcases (show p = 0 ∨ p = 1 ∨ p = 2 ∨ p = 3 ∨ p = 4 ∨ p = 5 ∨ p = 6 ∨ p = 7 by omega) with rfl | rfl | rfl | rfl | rfl | rfl | rfl | rfl <;> exact decide_eq_true h)
theorem k_is2 {A : List Nat} {j : Int} (hm : k_has A 101898 = true) (h : 12 ≤ j ∧ j < 18) : k_in A 99 j = true := k_has_in hm (decide_eq_true h)
theorem k_is3 {A : List Nat} {j : Int} (hm : k_has A 101899 = true) (h : 18 ≤ j ∧ j < 19) : k_in A 99 j = true := k_has_in hm (decide_eq_true h)
theorem k_is4 {A : List Nat} {j : Int} (hm : k_has A 101900 = true) (h : 19 ≤ j ∧ j < 25) : k_in A 99 j = true := k_has_in hm (decide_eq_true h)
theorem k_is5 {A : List Nat} {j : Int} (hm : k_has A 101901 = true) (h : 25 ≤ j ∧ j < 26) : k_in A 99 j = true := k_has_in hm (decide_eq_true h)
theorem k_is7 {A : List Nat} {j : Int} (hm : k_has A 101903 = true) (h : 29 ≤ j ∧ j < 32) : k_in A 99 j = true := k_has_in hm (decide_eq_true h)
theorem k_is8 {A : List Nat} {j : Int} (hm : k_has A 101904 = true) (h : 32 ≤ j ∧ j < 35) : k_in A 99 j = true := k_has_in hm (decide_eq_true h)
