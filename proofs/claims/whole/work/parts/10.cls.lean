abbrev P_X10_init (E : KE) (x : Nat) (t1 : Int32 × (Nat → Int32)) (t2 : Int32 × Int32 × Int32 × Int32 × Int32 × Int32 × Int32 × (Nat → Int32) × (Nat → Int32) × Int32 × (Nat → Int32) × (Nat → Int32) × Int32 × (Nat → Int32) × (Nat → Int32) × Int32 × (Nat → Int32) × (Nat → Int32) × Int32 × Int32 × Int32 × Int32) (t3 : Int32) (t4 : Int32 × Int32 × Int32 × Int32 × (Nat → Int32) × (Nat → Int32) × Int32 × (Nat → Int32) × (Nat → Int32) × Int32 × (Nat → Int32) × (Nat → Int32) × Int32 × (Nat → Int32) × (Nat → Int32)) (hp : Hp) : Option Value → Hp → Option Nat → Prop := fun v0 hp' al' => v0 = none ∧ hp' x = some (.inr (10, [.ref (x + 126), .ref (x + 128), .ref (x + 1), .ref (x + 3), .ref (x + 16), .ref (x + 18), .ref (x + 124), .ref (x + 125)])) ∧ hp' (x + 1) = some (.inr (8, [.ref (x + 2), .int 0])) ∧ hp' (x + 2) = some (.inl (kC E 0, 900, .inl (fun _ => 0))) ∧ hp' (x + 3) = some (.inr (2, [.ref (x + 4), .ref (x + 7), .ref (x + 10), .ref (x + 13), .int t4.1, .int t4.2.1, .int t4.2.2.1])) ∧ hp' (x + 4) = some (.inr (0, [.ref (x + 5), .ref (x + 6), .int t4.2.2.2.1])) ∧ hp' (x + 5) = some (.inl (kC E 0, 6, .inl t4.2.2.2.2.1)) ∧ hp' (x + 6) = some (.inl (kC E 0, 72, .inl t4.2.2.2.2.2.1)) ∧ hp' (x + 7) = some (.inr (7, [.ref (x + 8), .ref (x + 9), .int t4.2.2.2.2.2.2.1])) ∧ hp' (x + 8) = some (.inl (kC E 0, 6, .inl t4.2.2.2.2.2.2.2.1)) ∧ hp' (x + 9) = some (.inl (kC E 0, 24, .inl t4.2.2.2.2.2.2.2.2.1)) ∧ hp' (x + 10) = some (.inr (4, [.ref (x + 11), .ref (x + 12), .int t4.2.2.2.2.2.2.2.2.2.1])) ∧ hp' (x + 11) = some (.inl (kC E 0, 300, .inl t4.2.2.2.2.2.2.2.2.2.2.1)) ∧ hp' (x + 12) = some (.inl (kC E 0, 432, .inl t4.2.2.2.2.2.2.2.2.2.2.2.1)) ∧ hp' (x + 13) = some (.inr (6, [.ref (x + 14), .ref (x + 15), .int t4.2.2.2.2.2.2.2.2.2.2.2.2.1])) ∧ hp' (x + 14) = some (.inl (kC E 0, 36, .inl t4.2.2.2.2.2.2.2.2.2.2.2.2.2.1)) ∧ hp' (x + 15) = some (.inl (kC E 0, 36, .inl t4.2.2.2.2.2.2.2.2.2.2.2.2.2.2)) ∧ hp' (x + 16) = some (.inr (1, [.ref (x + 17), .int 0, .int 0])) ∧ hp' (x + 17) = some (.inl (kC E 0, 12, .inl (fun _ => 0))) ∧ hp' (x + 18) = some (.inr (3, [.ref (x + 19), .int 0, .int 0])) ∧ hp' (x + 19) = some (.inl (kC E 5, 8, .inr (.inr (.inr (.inr (va_up (va_up (va_up (va_up (va_up (va_up (va_up (va_up (fun _ => none) (Int32.toNatClampNeg 0) (some (x + 20))) (Int32.toNatClampNeg 1) (some (x + 33))) (Int32.toNatClampNeg 2) (some (x + 46))) (Int32.toNatClampNeg 3) (some (x + 59))) (Int32.toNatClampNeg 4) (some (x + 72))) (Int32.toNatClampNeg 5) (some (x + 85))) (Int32.toNatClampNeg 6) (some (x + 98))) (Int32.toNatClampNeg 7) (some (x + 111)))))))) ∧ hp' (x + 20) = some (.inr (2, [.ref (x + 21), .ref (x + 24), .ref (x + 27), .ref (x + 30), .int 0, .int 1, .int 0])) ∧ hp' (x + 21) = some (.inr (0, [.ref (x + 22), .ref (x + 23), .int 0])) ∧ hp' (x + 22) = some (.inl (kC E 0, 6, .inl (fun _ => 0))) ∧ hp' (x + 23) = some (.inl (kC E 0, 72, .inl (fun _ => 0))) ∧ hp' (x + 24) = some (.inr (7, [.ref (x + 25), .ref (x + 26), .int 0])) ∧ hp' (x + 25) = some (.inl (kC E 0, 6, .inl (fun _ => 0))) ∧ hp' (x + 26) = some (.inl (kC E 0, 24, .inl (fun _ => 0))) ∧ hp' (x + 27) = some (.inr (4, [.ref (x + 28), .ref (x + 29), .int 0])) ∧ hp' (x + 28) = some (.inl (kC E 0, 300, .inl (fun _ => 0))) ∧ hp' (x + 29) = some (.inl (kC E 0, 432, .inl (fun _ => 0))) ∧ hp' (x + 30) = some (.inr (6, [.ref (x + 31), .ref (x + 32), .int 0])) ∧ hp' (x + 31) = some (.inl (kC E 0, 36, .inl (fun _ => 0))) ∧ hp' (x + 32) = some (.inl (kC E 0, 36, .inl (fun _ => 0))) ∧ hp' (x + 33) = some (.inr (2, [.ref (x + 34), .ref (x + 37), .ref (x + 40), .ref (x + 43), .int 0, .int 1, .int 0])) ∧ hp' (x + 34) = some (.inr (0, [.ref (x + 35), .ref (x + 36), .int 0])) ∧ hp' (x + 35) = some (.inl (kC E 0, 6, .inl (fun _ => 0))) ∧ hp' (x + 36) = some (.inl (kC E 0, 72, .inl (fun _ => 0))) ∧ hp' (x + 37) = some (.inr (7, [.ref (x + 38), .ref (x + 39), .int 0])) ∧ hp' (x + 38) = some (.inl (kC E 0, 6, .inl (fun _ => 0))) ∧ hp' (x + 39) = some (.inl (kC E 0, 24, .inl (fun _ => 0))) ∧ hp' (x + 40) = some (.inr (4, [.ref (x + 41), .ref (x + 42), .int 0])) ∧ hp' (x + 41) = some (.inl (kC E 0, 300, .inl (fun _ => 0))) ∧ hp' (x + 42) = some (.inl (kC E 0, 432, .inl (fun _ => 0))) ∧ hp' (x + 43) = some (.inr (6, [.ref (x + 44), .ref (x + 45), .int 0])) ∧ hp' (x + 44) = some (.inl (kC E 0, 36, .inl (fun _ => 0))) ∧ hp' (x + 45) = some (.inl (kC E 0, 36, .inl (fun _ => 0))) ∧ hp' (x + 46) = some (.inr (2, [.ref (x + 47), .ref (x + 50), .ref (x + 53), .ref (x + 56), .int 0, .int 1, .int 0])) ∧ hp' (x + 47) = some (.inr (0, [.ref (x + 48), .ref (x + 49), .int 0])) ∧ hp' (x + 48) = some (.inl (kC E 0, 6, .inl (fun _ => 0))) ∧ hp' (x + 49) = some (.inl (kC E 0, 72, .inl (fun _ => 0))) ∧ hp' (x + 50) = some (.inr (7, [.ref (x + 51), .ref (x + 52), .int 0])) ∧ hp' (x + 51) = some (.inl (kC E 0, 6, .inl (fun _ => 0))) ∧ hp' (x + 52) = some (.inl (kC E 0, 24, .inl (fun _ => 0))) ∧ hp' (x + 53) = some (.inr (4, [.ref (x + 54), .ref (x + 55), .int 0])) ∧ hp' (x + 54) = some (.inl (kC E 0, 300, .inl (fun _ => 0))) ∧ hp' (x + 55) = some (.inl (kC E 0, 432, .inl (fun _ => 0))) ∧ hp' (x + 56) = some (.inr (6, [.ref (x + 57), .ref (x + 58), .int 0])) ∧ hp' (x + 57) = some (.inl (kC E 0, 36, .inl (fun _ => 0))) ∧ hp' (x + 58) = some (.inl (kC E 0, 36, .inl (fun _ => 0))) ∧ hp' (x + 59) = some (.inr (2, [.ref (x + 60), .ref (x + 63), .ref (x + 66), .ref (x + 69), .int 0, .int 1, .int 0])) ∧ hp' (x + 60) = some (.inr (0, [.ref (x + 61), .ref (x + 62), .int 0])) ∧ hp' (x + 61) = some (.inl (kC E 0, 6, .inl (fun _ => 0))) ∧ hp' (x + 62) = some (.inl (kC E 0, 72, .inl (fun _ => 0))) ∧ hp' (x + 63) = some (.inr (7, [.ref (x + 64), .ref (x + 65), .int 0])) ∧ hp' (x + 64) = some (.inl (kC E 0, 6, .inl (fun _ => 0))) ∧ hp' (x + 65) = some (.inl (kC E 0, 24, .inl (fun _ => 0))) ∧ hp' (x + 66) = some (.inr (4, [.ref (x + 67), .ref (x + 68), .int 0])) ∧ hp' (x + 67) = some (.inl (kC E 0, 300, .inl (fun _ => 0))) ∧ hp' (x + 68) = some (.inl (kC E 0, 432, .inl (fun _ => 0))) ∧ hp' (x + 69) = some (.inr (6, [.ref (x + 70), .ref (x + 71), .int 0])) ∧ hp' (x + 70) = some (.inl (kC E 0, 36, .inl (fun _ => 0))) ∧ hp' (x + 71) = some (.inl (kC E 0, 36, .inl (fun _ => 0))) ∧ hp' (x + 72) = some (.inr (2, [.ref (x + 73), .ref (x + 76), .ref (x + 79), .ref (x + 82), .int 0, .int 1, .int 0])) ∧ hp' (x + 73) = some (.inr (0, [.ref (x + 74), .ref (x + 75), .int 0])) ∧ hp' (x + 74) = some (.inl (kC E 0, 6, .inl (fun _ => 0))) ∧ hp' (x + 75) = some (.inl (kC E 0, 72, .inl (fun _ => 0))) ∧ hp' (x + 76) = some (.inr (7, [.ref (x + 77), .ref (x + 78), .int 0])) ∧ hp' (x + 77) = some (.inl (kC E 0, 6, .inl (fun _ => 0))) ∧ hp' (x + 78) = some (.inl (kC E 0, 24, .inl (fun _ => 0))) ∧ hp' (x + 79) = some (.inr (4, [.ref (x + 80), .ref (x + 81), .int 0])) ∧ hp' (x + 80) = some (.inl (kC E 0, 300, .inl (fun _ => 0))) ∧ hp' (x + 81) = some (.inl (kC E 0, 432, .inl (fun _ => 0))) ∧ hp' (x + 82) = some (.inr (6, [.ref (x + 83), .ref (x + 84), .int 0])) ∧ hp' (x + 83) = some (.inl (kC E 0, 36, .inl (fun _ => 0))) ∧ hp' (x + 84) = some (.inl (kC E 0, 36, .inl (fun _ => 0))) ∧ hp' (x + 85) = some (.inr (2, [.ref (x + 86), .ref (x + 89), .ref (x + 92), .ref (x + 95), .int 0, .int 1, .int 0])) ∧ hp' (x + 86) = some (.inr (0, [.ref (x + 87), .ref (x + 88), .int 0])) ∧ hp' (x + 87) = some (.inl (kC E 0, 6, .inl (fun _ => 0))) ∧ hp' (x + 88) = some (.inl (kC E 0, 72, .inl (fun _ => 0))) ∧ hp' (x + 89) = some (.inr (7, [.ref (x + 90), .ref (x + 91), .int 0])) ∧ hp' (x + 90) = some (.inl (kC E 0, 6, .inl (fun _ => 0))) ∧ hp' (x + 91) = some (.inl (kC E 0, 24, .inl (fun _ => 0))) ∧ hp' (x + 92) = some (.inr (4, [.ref (x + 93), .ref (x + 94), .int 0])) ∧ hp' (x + 93) = some (.inl (kC E 0, 300, .inl (fun _ => 0))) ∧ hp' (x + 94) = some (.inl (kC E 0, 432, .inl (fun _ => 0))) ∧ hp' (x + 95) = some (.inr (6, [.ref (x + 96), .ref (x + 97), .int 0])) ∧ hp' (x + 96) = some (.inl (kC E 0, 36, .inl (fun _ => 0))) ∧ hp' (x + 97) = some (.inl (kC E 0, 36, .inl (fun _ => 0))) ∧ hp' (x + 98) = some (.inr (2, [.ref (x + 99), .ref (x + 102), .ref (x + 105), .ref (x + 108), .int 0, .int 1, .int 0])) ∧ hp' (x + 99) = some (.inr (0, [.ref (x + 100), .ref (x + 101), .int 0])) ∧ hp' (x + 100) = some (.inl (kC E 0, 6, .inl (fun _ => 0))) ∧ hp' (x + 101) = some (.inl (kC E 0, 72, .inl (fun _ => 0))) ∧ hp' (x + 102) = some (.inr (7, [.ref (x + 103), .ref (x + 104), .int 0])) ∧ hp' (x + 103) = some (.inl (kC E 0, 6, .inl (fun _ => 0))) ∧ hp' (x + 104) = some (.inl (kC E 0, 24, .inl (fun _ => 0))) ∧ hp' (x + 105) = some (.inr (4, [.ref (x + 106), .ref (x + 107), .int 0])) ∧ hp' (x + 106) = some (.inl (kC E 0, 300, .inl (fun _ => 0))) ∧ hp' (x + 107) = some (.inl (kC E 0, 432, .inl (fun _ => 0))) ∧ hp' (x + 108) = some (.inr (6, [.ref (x + 109), .ref (x + 110), .int 0])) ∧ hp' (x + 109) = some (.inl (kC E 0, 36, .inl (fun _ => 0))) ∧ hp' (x + 110) = some (.inl (kC E 0, 36, .inl (fun _ => 0))) ∧ hp' (x + 111) = some (.inr (2, [.ref (x + 112), .ref (x + 115), .ref (x + 118), .ref (x + 121), .int 0, .int 1, .int 0])) ∧ hp' (x + 112) = some (.inr (0, [.ref (x + 113), .ref (x + 114), .int 0])) ∧ hp' (x + 113) = some (.inl (kC E 0, 6, .inl (fun _ => 0))) ∧ hp' (x + 114) = some (.inl (kC E 0, 72, .inl (fun _ => 0))) ∧ hp' (x + 115) = some (.inr (7, [.ref (x + 116), .ref (x + 117), .int 0])) ∧ hp' (x + 116) = some (.inl (kC E 0, 6, .inl (fun _ => 0))) ∧ hp' (x + 117) = some (.inl (kC E 0, 24, .inl (fun _ => 0))) ∧ hp' (x + 118) = some (.inr (4, [.ref (x + 119), .ref (x + 120), .int 0])) ∧ hp' (x + 119) = some (.inl (kC E 0, 300, .inl (fun _ => 0))) ∧ hp' (x + 120) = some (.inl (kC E 0, 432, .inl (fun _ => 0))) ∧ hp' (x + 121) = some (.inr (6, [.ref (x + 122), .ref (x + 123), .int 0])) ∧ hp' (x + 122) = some (.inl (kC E 0, 36, .inl (fun _ => 0))) ∧ hp' (x + 123) = some (.inl (kC E 0, 36, .inl (fun _ => 0))) ∧ hp' (x + 124) = some (.inl (kC E 5, 2, .inr (.inr (.inr (.inr (va_up (va_up (fun _ => none) (Int32.toNatClampNeg 0) (some (x + 143))) (Int32.toNatClampNeg 1) (some (x + 156)))))))) ∧ hp' (x + 125) = some (.inl (kC E 0, 2, .inl (fun _ => 0))) ∧ hp' (x + 126) = some (.inr (8, [.ref (x + 127), .int t3])) ∧ hp' (x + 127) = some (.inl (kC E 0, 900, .inl t1.2)) ∧ hp' (x + 128) = some (.inr (5, [.ref (x + 126), .ref (x + 142), .ref (x + 129), .int t2.2.1, .int t2.2.2.1])) ∧ hp' (x + 129) = some (.inr (2, [.ref (x + 130), .ref (x + 133), .ref (x + 136), .ref (x + 139), .int t2.2.2.2.1, .int t2.2.2.2.2.1, .int t2.2.2.2.2.2.1])) ∧ hp' (x + 130) = some (.inr (0, [.ref (x + 131), .ref (x + 132), .int t2.2.2.2.2.2.2.1])) ∧ hp' (x + 131) = some (.inl (kC E 0, 6, .inl t2.2.2.2.2.2.2.2.1)) ∧ hp' (x + 132) = some (.inl (kC E 0, 72, .inl t2.2.2.2.2.2.2.2.2.1)) ∧ hp' (x + 133) = some (.inr (7, [.ref (x + 134), .ref (x + 135), .int t2.2.2.2.2.2.2.2.2.2.1])) ∧ hp' (x + 134) = some (.inl (kC E 0, 6, .inl t2.2.2.2.2.2.2.2.2.2.2.1)) ∧ hp' (x + 135) = some (.inl (kC E 0, 24, .inl t2.2.2.2.2.2.2.2.2.2.2.2.1)) ∧ hp' (x + 136) = some (.inr (4, [.ref (x + 137), .ref (x + 138), .int t2.2.2.2.2.2.2.2.2.2.2.2.2.1])) ∧ hp' (x + 137) = some (.inl (kC E 0, 300, .inl t2.2.2.2.2.2.2.2.2.2.2.2.2.2.1)) ∧ hp' (x + 138) = some (.inl (kC E 0, 432, .inl t2.2.2.2.2.2.2.2.2.2.2.2.2.2.2.1)) ∧ hp' (x + 139) = some (.inr (6, [.ref (x + 140), .ref (x + 141), .int t2.2.2.2.2.2.2.2.2.2.2.2.2.2.2.2.1])) ∧ hp' (x + 140) = some (.inl (kC E 0, 36, .inl t2.2.2.2.2.2.2.2.2.2.2.2.2.2.2.2.2.1)) ∧ hp' (x + 141) = some (.inl (kC E 0, 36, .inl t2.2.2.2.2.2.2.2.2.2.2.2.2.2.2.2.2.2.1)) ∧ hp' (x + 142) = some (.inr (9, [.ref (x + 126), .int t2.2.2.2.2.2.2.2.2.2.2.2.2.2.2.2.2.2.2.1, .int t2.2.2.2.2.2.2.2.2.2.2.2.2.2.2.2.2.2.2.2.1, .int t2.2.2.2.2.2.2.2.2.2.2.2.2.2.2.2.2.2.2.2.2.1, .int t2.2.2.2.2.2.2.2.2.2.2.2.2.2.2.2.2.2.2.2.2.2])) ∧ hp' (x + 143) = some (.inr (2, [.ref (x + 144), .ref (x + 147), .ref (x + 150), .ref (x + 153), .int 0, .int 1, .int 0])) ∧ hp' (x + 144) = some (.inr (0, [.ref (x + 145), .ref (x + 146), .int 0])) ∧ hp' (x + 145) = some (.inl (kC E 0, 6, .inl (fun _ => 0))) ∧ hp' (x + 146) = some (.inl (kC E 0, 72, .inl (fun _ => 0))) ∧ hp' (x + 147) = some (.inr (7, [.ref (x + 148), .ref (x + 149), .int 0])) ∧ hp' (x + 148) = some (.inl (kC E 0, 6, .inl (fun _ => 0))) ∧ hp' (x + 149) = some (.inl (kC E 0, 24, .inl (fun _ => 0))) ∧ hp' (x + 150) = some (.inr (4, [.ref (x + 151), .ref (x + 152), .int 0])) ∧ hp' (x + 151) = some (.inl (kC E 0, 300, .inl (fun _ => 0))) ∧ hp' (x + 152) = some (.inl (kC E 0, 432, .inl (fun _ => 0))) ∧ hp' (x + 153) = some (.inr (6, [.ref (x + 154), .ref (x + 155), .int 0])) ∧ hp' (x + 154) = some (.inl (kC E 0, 36, .inl (fun _ => 0))) ∧ hp' (x + 155) = some (.inl (kC E 0, 36, .inl (fun _ => 0))) ∧ hp' (x + 156) = some (.inr (2, [.ref (x + 157), .ref (x + 160), .ref (x + 163), .ref (x + 166), .int 0, .int 1, .int 0])) ∧ hp' (x + 157) = some (.inr (0, [.ref (x + 158), .ref (x + 159), .int 0])) ∧ hp' (x + 158) = some (.inl (kC E 0, 6, .inl (fun _ => 0))) ∧ hp' (x + 159) = some (.inl (kC E 0, 72, .inl (fun _ => 0))) ∧ hp' (x + 160) = some (.inr (7, [.ref (x + 161), .ref (x + 162), .int 0])) ∧ hp' (x + 161) = some (.inl (kC E 0, 6, .inl (fun _ => 0))) ∧ hp' (x + 162) = some (.inl (kC E 0, 24, .inl (fun _ => 0))) ∧ hp' (x + 163) = some (.inr (4, [.ref (x + 164), .ref (x + 165), .int 0])) ∧ hp' (x + 164) = some (.inl (kC E 0, 300, .inl (fun _ => 0))) ∧ hp' (x + 165) = some (.inl (kC E 0, 432, .inl (fun _ => 0))) ∧ hp' (x + 166) = some (.inr (6, [.ref (x + 167), .ref (x + 168), .int 0])) ∧ hp' (x + 167) = some (.inl (kC E 0, 36, .inl (fun _ => 0))) ∧ hp' (x + 168) = some (.inl (kC E 0, 36, .inl (fun _ => 0))) ∧ (∀ q, (q < x ∨ (x + 169) ≤ q) → hp' q = hp q) ∧ some (x + 169) = al'
set_option maxHeartbeats 8000000 in
set_option maxRecDepth 100000 in
theorem c_X10_init {E : KE} {l : Launch} {hp : Hp} {N : Nat} {x : Nat} (g0 : hp x = some (.inr (10, [.null, .null, .null, .null, .null, .null, .null, .null]))) {t1 : Int32 × (Nat → Int32)} (hct1 : f_X8_appendString N 0 0 (fun _ => 0) = some t1) {t2 : Int32 × Int32 × Int32 × Int32 × Int32 × Int32 × Int32 × (Nat → Int32) × (Nat → Int32) × Int32 × (Nat → Int32) × (Nat → Int32) × Int32 × (Nat → Int32) × (Nat → Int32) × Int32 × (Nat → Int32) × (Nat → Int32) × Int32 × Int32 × Int32 × Int32} (hct2 : f_X5_parse N t1.1 t1.2 0 (-1) 0 1 0 0 (fun _ => 0) (fun _ => 0) 0 (fun _ => 0) (fun _ => 0) 0 (fun _ => 0) (fun _ => 0) 0 (fun _ => 0) (fun _ => 0) 0 0 0 0 = some t2) {t3 : Int32} (hct3 : f_X8_cutTo t1.1 0 = some t3) {t4 : Int32 × Int32 × Int32 × Int32 × (Nat → Int32) × (Nat → Int32) × Int32 × (Nat → Int32) × (Nat → Int32) × Int32 × (Nat → Int32) × (Nat → Int32) × Int32 × (Nat → Int32) × (Nat → Int32)} (hct4 : f_X2_copyFrom t2.2.2.2.1 t2.2.2.2.2.1 t2.2.2.2.2.2.1 t2.2.2.2.2.2.2.1 t2.2.2.2.2.2.2.2.1 t2.2.2.2.2.2.2.2.2.1 t2.2.2.2.2.2.2.2.2.2.1 t2.2.2.2.2.2.2.2.2.2.2.1 t2.2.2.2.2.2.2.2.2.2.2.2.1 t2.2.2.2.2.2.2.2.2.2.2.2.2.1 t2.2.2.2.2.2.2.2.2.2.2.2.2.2.1 t2.2.2.2.2.2.2.2.2.2.2.2.2.2.2.1 t2.2.2.2.2.2.2.2.2.2.2.2.2.2.2.2.1 t2.2.2.2.2.2.2.2.2.2.2.2.2.2.2.2.2.1 t2.2.2.2.2.2.2.2.2.2.2.2.2.2.2.2.2.2.1 0 1 0 0 (fun _ => 0) (fun _ => 0) 0 (fun _ => 0) (fun _ => 0) 0 (fun _ => 0) (fun _ => 0) 0 (fun _ => 0) (fun _ => 0) = some t4) : AM E l yX10_init cX10_init 4 (Option.none : Option Jvm.ClassFile.FieldType) ⟨7, 168, 13016, 162⟩ [.ref x] hp (some (x + 1)) (P_X10_init E x t1 t2 t3 t4 hp) := by
  refine A_of (by decide +kernel) (Nat.le_of_ble_eq_true rfl) ?_
  intro p e s m args below meth c X hr hnm
  have X : CX E p l s m args meth c "DiceAudit" cX10_init 4 := X
  refine A_L (L' := [(0, .ref x)]) rfl ?_
  refine A_aload_n X dX10_init_0 0 rfl ?_
  refine A_objI (i0 := 0) (i1 := 0) X dX10_init_1 kw_32 kw_33 kw_34 (Nat.le_of_ble_eq_true rfl) (Nat.le_of_ble_eq_true rfl) ?_
  refine A_aload_n X dX10_init_4 0 rfl ?_
  refine A_new (z := (x + 1)) (fs := [.null, .int 0]) X dX10_init_5 kcl_X8 kw_35 kw_36 kw_2 (fun j hj => by match j, hj with | 0, _ => rfl | 1, _ => rfl | j + 2, hj => exact absurd hj (by omega)) (Nat.le_of_ble_eq_true rfl) (Nat.le_of_ble_eq_true rfl) (fun hp1 (k1 : hp1 (x + 1) = some (.inr (8, [.null, .int 0]))) n1 => ?_)
  refine A_dup X dX10_init_8 rfl ?_
  refine A_c (k' := 2) (n' := 902) rfl rfl (A_runIN (rest := [.ref (x + 1), .ref x]) X dX10_init_9 (c_X8_init (b := (x + 1)) k1) kY_X8_init kw_37 ⟨(Nat.le_of_ble_eq_true rfl), (Nat.le_of_ble_eq_true rfl), (Nat.le_of_ble_eq_true rfl), (Nat.le_of_ble_eq_true rfl)⟩ rfl (Nat.le_of_ble_eq_true rfl)) (fun v9 hp2 al9 hP => ?_)
  obtain ⟨rfl, k2_0, k2_1, n2, rfl⟩ := hP
  replace k2_0 : hp2 (x + 1) = some (.inr (8, [.ref (x + 2), .int 0])) := k2_0
  replace k2_1 : hp2 (x + 2) = some (.inl (kC E 0, 900, .inl (fun _ => 0))) := k2_1
  refine A_st (st' := [.ref (x + 1), .ref x]) rfl ?_
  refine A_putF X dX10_init_12 kcl_X10 2 (by decide) kw_653 ((n2 _ (by omega)).trans ((n1 _ (by omega)).trans g0)) rfl (hnm.trans rfl) rfl rfl rfl (by simp) (fun hp3 (k3 : hp3 x = some (.inr (10, [.null, .null, .ref (x + 1), .null, .null, .null, .null, .null]))) n3 => ?_)
  refine A_aload_n X dX10_init_15 0 rfl ?_
  refine A_new (z := (x + 3)) (fs := [.null, .null, .null, .null, .int 0, .int 0, .int 0]) X dX10_init_16 kcl_X2 kw_51 kw_52 kw_3 (fun j hj => by match j, hj with | 0, _ => rfl | 1, _ => rfl | 2, _ => rfl | 3, _ => rfl | 4, _ => rfl | 5, _ => rfl | 6, _ => rfl | j + 7, hj => exact absurd hj (by omega)) (Nat.le_of_ble_eq_true rfl) (Nat.le_of_ble_eq_true rfl) (fun hp4 (k4 : hp4 (x + 3) = some (.inr (2, [.null, .null, .null, .null, .int 0, .int 0, .int 0]))) n4 => ?_)
  refine A_dup X dX10_init_19 rfl ?_
  refine A_c (k' := 15) (n' := 1833) rfl rfl (A_runIN (rest := [.ref (x + 3), .ref x]) X dX10_init_20 (c_X2_init (b := (x + 3)) k4) kY_X2_init kw_53 ⟨(Nat.le_of_ble_eq_true rfl), (Nat.le_of_ble_eq_true rfl), (Nat.le_of_ble_eq_true rfl), (Nat.le_of_ble_eq_true rfl)⟩ rfl (Nat.le_of_ble_eq_true rfl)) (fun v9 hp5 al9 hP => ?_)
  obtain ⟨rfl, k5_0, k5_1, k5_2, k5_3, k5_4, k5_5, k5_6, k5_7, k5_8, k5_9, k5_10, k5_11, k5_12, n5, rfl⟩ := hP
  replace k5_0 : hp5 (x + 3) = some (.inr (2, [.ref (x + 4), .ref (x + 7), .ref (x + 10), .ref (x + 13), .int 0, .int 1, .int 0])) := k5_0
  replace k5_1 : hp5 (x + 4) = some (.inr (0, [.ref (x + 5), .ref (x + 6), .int 0])) := k5_1
  replace k5_2 : hp5 (x + 5) = some (.inl (kC E 0, 6, .inl (fun _ => 0))) := k5_2
  replace k5_3 : hp5 (x + 6) = some (.inl (kC E 0, 72, .inl (fun _ => 0))) := k5_3
  replace k5_4 : hp5 (x + 7) = some (.inr (7, [.ref (x + 8), .ref (x + 9), .int 0])) := k5_4
  replace k5_5 : hp5 (x + 8) = some (.inl (kC E 0, 6, .inl (fun _ => 0))) := k5_5
  replace k5_6 : hp5 (x + 9) = some (.inl (kC E 0, 24, .inl (fun _ => 0))) := k5_6
  replace k5_7 : hp5 (x + 10) = some (.inr (4, [.ref (x + 11), .ref (x + 12), .int 0])) := k5_7
  replace k5_8 : hp5 (x + 11) = some (.inl (kC E 0, 300, .inl (fun _ => 0))) := k5_8
  replace k5_9 : hp5 (x + 12) = some (.inl (kC E 0, 432, .inl (fun _ => 0))) := k5_9
  replace k5_10 : hp5 (x + 13) = some (.inr (6, [.ref (x + 14), .ref (x + 15), .int 0])) := k5_10
  replace k5_11 : hp5 (x + 14) = some (.inl (kC E 0, 36, .inl (fun _ => 0))) := k5_11
  replace k5_12 : hp5 (x + 15) = some (.inl (kC E 0, 36, .inl (fun _ => 0))) := k5_12
  refine A_st (st' := [.ref (x + 3), .ref x]) rfl ?_
  refine A_putF X dX10_init_23 kcl_X10 3 (by decide) kw_654 ((n5 _ (by omega)).trans ((n4 _ (by omega)).trans k3)) rfl (hnm.trans rfl) rfl rfl rfl (by simp) (fun hp6 (k6 : hp6 x = some (.inr (10, [.null, .null, .ref (x + 1), .ref (x + 3), .null, .null, .null, .null]))) n6 => ?_)
  refine A_aload_n X dX10_init_26 0 rfl ?_
  refine A_new (z := (x + 16)) (fs := [.null, .int 0, .int 0]) X dX10_init_27 kcl_X1 kw_175 kw_176 kw_8 (fun j hj => by match j, hj with | 0, _ => rfl | 1, _ => rfl | 2, _ => rfl | j + 3, hj => exact absurd hj (by omega)) (Nat.le_of_ble_eq_true rfl) (Nat.le_of_ble_eq_true rfl) (fun hp7 (k7 : hp7 (x + 16) = some (.inr (1, [.null, .int 0, .int 0]))) n7 => ?_)
  refine A_dup X dX10_init_30 rfl ?_
  refine A_c (k' := 17) (n' := 1848) rfl rfl (A_runIN (rest := [.ref (x + 16), .ref x]) X dX10_init_31 (c_X1_init (b := (x + 16)) k7) kY_X1_init kw_177 ⟨(Nat.le_of_ble_eq_true rfl), (Nat.le_of_ble_eq_true rfl), (Nat.le_of_ble_eq_true rfl), (Nat.le_of_ble_eq_true rfl)⟩ rfl (Nat.le_of_ble_eq_true rfl)) (fun v9 hp8 al9 hP => ?_)
  obtain ⟨rfl, k8_0, k8_1, n8, rfl⟩ := hP
  replace k8_0 : hp8 (x + 16) = some (.inr (1, [.ref (x + 17), .int 0, .int 0])) := k8_0
  replace k8_1 : hp8 (x + 17) = some (.inl (kC E 0, 12, .inl (fun _ => 0))) := k8_1
  refine A_st (st' := [.ref (x + 16), .ref x]) rfl ?_
  refine A_putF X dX10_init_34 kcl_X10 4 (by decide) kw_655 ((n8 _ (by omega)).trans ((n7 _ (by omega)).trans k6)) rfl (hnm.trans rfl) rfl rfl rfl (by simp) (fun hp9 (k9 : hp9 x = some (.inr (10, [.null, .null, .ref (x + 1), .ref (x + 3), .ref (x + 16), .null, .null, .null]))) n9 => ?_)
  refine A_aload_n X dX10_init_37 0 rfl ?_
  refine A_new (z := (x + 18)) (fs := [.null, .int 0, .int 0]) X dX10_init_38 kcl_X3 kw_191 kw_192 kw_9 (fun j hj => by match j, hj with | 0, _ => rfl | 1, _ => rfl | 2, _ => rfl | j + 3, hj => exact absurd hj (by omega)) (Nat.le_of_ble_eq_true rfl) (Nat.le_of_ble_eq_true rfl) (fun hp10 (k10 : hp10 (x + 18) = some (.inr (3, [.null, .int 0, .int 0]))) n10 => ?_)
  refine A_dup X dX10_init_41 rfl ?_
  refine A_c (k' := 123) (n' := 9307) rfl rfl (A_runI (rest := [.ref (x + 18), .ref x]) X dX10_init_42 (c_X3_init (x := x) k10) kY_X3_init kw_193 ⟨(Nat.le_of_ble_eq_true rfl), (Nat.le_of_ble_eq_true rfl), (Nat.le_of_ble_eq_true rfl), (Nat.le_of_ble_eq_true rfl)⟩ rfl (Nat.le_of_ble_eq_true rfl)) (fun v9 hp11 al9 hP => ?_)
  obtain ⟨rfl, k11_0, k11_1, k11_2, k11_3, k11_4, k11_5, k11_6, k11_7, k11_8, k11_9, k11_10, k11_11, k11_12, k11_13, k11_14, k11_15, k11_16, k11_17, k11_18, k11_19, k11_20, k11_21, k11_22, k11_23, k11_24, k11_25, k11_26, k11_27, k11_28, k11_29, k11_30, k11_31, k11_32, k11_33, k11_34, k11_35, k11_36, k11_37, k11_38, k11_39, k11_40, k11_41, k11_42, k11_43, k11_44, k11_45, k11_46, k11_47, k11_48, k11_49, k11_50, k11_51, k11_52, k11_53, k11_54, k11_55, k11_56, k11_57, k11_58, k11_59, k11_60, k11_61, k11_62, k11_63, k11_64, k11_65, k11_66, k11_67, k11_68, k11_69, k11_70, k11_71, k11_72, k11_73, k11_74, k11_75, k11_76, k11_77, k11_78, k11_79, k11_80, k11_81, k11_82, k11_83, k11_84, k11_85, k11_86, k11_87, k11_88, k11_89, k11_90, k11_91, k11_92, k11_93, k11_94, k11_95, k11_96, k11_97, k11_98, k11_99, k11_100, k11_101, k11_102, k11_103, k11_104, k11_105, n11, rfl⟩ := hP
  replace k11_0 : hp11 (x + 18) = some (.inr (3, [.ref (x + 19), .int 0, .int 0])) := k11_0
  replace k11_1 : hp11 (x + 19) = some (.inl (kC E 5, 8, .inr (.inr (.inr (.inr (va_up (va_up (va_up (va_up (va_up (va_up (va_up (va_up (fun _ => none) (Int32.toNatClampNeg 0) (some (x + 20))) (Int32.toNatClampNeg 1) (some (x + 33))) (Int32.toNatClampNeg 2) (some (x + 46))) (Int32.toNatClampNeg 3) (some (x + 59))) (Int32.toNatClampNeg 4) (some (x + 72))) (Int32.toNatClampNeg 5) (some (x + 85))) (Int32.toNatClampNeg 6) (some (x + 98))) (Int32.toNatClampNeg 7) (some (x + 111)))))))) := k11_1
  replace k11_2 : hp11 (x + 20) = some (.inr (2, [.ref (x + 21), .ref (x + 24), .ref (x + 27), .ref (x + 30), .int 0, .int 1, .int 0])) := k11_2
  replace k11_3 : hp11 (x + 21) = some (.inr (0, [.ref (x + 22), .ref (x + 23), .int 0])) := k11_3
  replace k11_4 : hp11 (x + 22) = some (.inl (kC E 0, 6, .inl (fun _ => 0))) := k11_4
  replace k11_5 : hp11 (x + 23) = some (.inl (kC E 0, 72, .inl (fun _ => 0))) := k11_5
  replace k11_6 : hp11 (x + 24) = some (.inr (7, [.ref (x + 25), .ref (x + 26), .int 0])) := k11_6
  replace k11_7 : hp11 (x + 25) = some (.inl (kC E 0, 6, .inl (fun _ => 0))) := k11_7
  replace k11_8 : hp11 (x + 26) = some (.inl (kC E 0, 24, .inl (fun _ => 0))) := k11_8
  replace k11_9 : hp11 (x + 27) = some (.inr (4, [.ref (x + 28), .ref (x + 29), .int 0])) := k11_9
  replace k11_10 : hp11 (x + 28) = some (.inl (kC E 0, 300, .inl (fun _ => 0))) := k11_10
  replace k11_11 : hp11 (x + 29) = some (.inl (kC E 0, 432, .inl (fun _ => 0))) := k11_11
  replace k11_12 : hp11 (x + 30) = some (.inr (6, [.ref (x + 31), .ref (x + 32), .int 0])) := k11_12
  replace k11_13 : hp11 (x + 31) = some (.inl (kC E 0, 36, .inl (fun _ => 0))) := k11_13
  replace k11_14 : hp11 (x + 32) = some (.inl (kC E 0, 36, .inl (fun _ => 0))) := k11_14
  replace k11_15 : hp11 (x + 33) = some (.inr (2, [.ref (x + 34), .ref (x + 37), .ref (x + 40), .ref (x + 43), .int 0, .int 1, .int 0])) := k11_15
  replace k11_16 : hp11 (x + 34) = some (.inr (0, [.ref (x + 35), .ref (x + 36), .int 0])) := k11_16
  replace k11_17 : hp11 (x + 35) = some (.inl (kC E 0, 6, .inl (fun _ => 0))) := k11_17
  replace k11_18 : hp11 (x + 36) = some (.inl (kC E 0, 72, .inl (fun _ => 0))) := k11_18
  replace k11_19 : hp11 (x + 37) = some (.inr (7, [.ref (x + 38), .ref (x + 39), .int 0])) := k11_19
  replace k11_20 : hp11 (x + 38) = some (.inl (kC E 0, 6, .inl (fun _ => 0))) := k11_20
  replace k11_21 : hp11 (x + 39) = some (.inl (kC E 0, 24, .inl (fun _ => 0))) := k11_21
  replace k11_22 : hp11 (x + 40) = some (.inr (4, [.ref (x + 41), .ref (x + 42), .int 0])) := k11_22
  replace k11_23 : hp11 (x + 41) = some (.inl (kC E 0, 300, .inl (fun _ => 0))) := k11_23
  replace k11_24 : hp11 (x + 42) = some (.inl (kC E 0, 432, .inl (fun _ => 0))) := k11_24
  replace k11_25 : hp11 (x + 43) = some (.inr (6, [.ref (x + 44), .ref (x + 45), .int 0])) := k11_25
  replace k11_26 : hp11 (x + 44) = some (.inl (kC E 0, 36, .inl (fun _ => 0))) := k11_26
  replace k11_27 : hp11 (x + 45) = some (.inl (kC E 0, 36, .inl (fun _ => 0))) := k11_27
  replace k11_28 : hp11 (x + 46) = some (.inr (2, [.ref (x + 47), .ref (x + 50), .ref (x + 53), .ref (x + 56), .int 0, .int 1, .int 0])) := k11_28
  replace k11_29 : hp11 (x + 47) = some (.inr (0, [.ref (x + 48), .ref (x + 49), .int 0])) := k11_29
  replace k11_30 : hp11 (x + 48) = some (.inl (kC E 0, 6, .inl (fun _ => 0))) := k11_30
  replace k11_31 : hp11 (x + 49) = some (.inl (kC E 0, 72, .inl (fun _ => 0))) := k11_31
  replace k11_32 : hp11 (x + 50) = some (.inr (7, [.ref (x + 51), .ref (x + 52), .int 0])) := k11_32
  replace k11_33 : hp11 (x + 51) = some (.inl (kC E 0, 6, .inl (fun _ => 0))) := k11_33
  replace k11_34 : hp11 (x + 52) = some (.inl (kC E 0, 24, .inl (fun _ => 0))) := k11_34
  replace k11_35 : hp11 (x + 53) = some (.inr (4, [.ref (x + 54), .ref (x + 55), .int 0])) := k11_35
  replace k11_36 : hp11 (x + 54) = some (.inl (kC E 0, 300, .inl (fun _ => 0))) := k11_36
  replace k11_37 : hp11 (x + 55) = some (.inl (kC E 0, 432, .inl (fun _ => 0))) := k11_37
  replace k11_38 : hp11 (x + 56) = some (.inr (6, [.ref (x + 57), .ref (x + 58), .int 0])) := k11_38
  replace k11_39 : hp11 (x + 57) = some (.inl (kC E 0, 36, .inl (fun _ => 0))) := k11_39
  replace k11_40 : hp11 (x + 58) = some (.inl (kC E 0, 36, .inl (fun _ => 0))) := k11_40
  replace k11_41 : hp11 (x + 59) = some (.inr (2, [.ref (x + 60), .ref (x + 63), .ref (x + 66), .ref (x + 69), .int 0, .int 1, .int 0])) := k11_41
  replace k11_42 : hp11 (x + 60) = some (.inr (0, [.ref (x + 61), .ref (x + 62), .int 0])) := k11_42
  replace k11_43 : hp11 (x + 61) = some (.inl (kC E 0, 6, .inl (fun _ => 0))) := k11_43
  replace k11_44 : hp11 (x + 62) = some (.inl (kC E 0, 72, .inl (fun _ => 0))) := k11_44
  replace k11_45 : hp11 (x + 63) = some (.inr (7, [.ref (x + 64), .ref (x + 65), .int 0])) := k11_45
  replace k11_46 : hp11 (x + 64) = some (.inl (kC E 0, 6, .inl (fun _ => 0))) := k11_46
  replace k11_47 : hp11 (x + 65) = some (.inl (kC E 0, 24, .inl (fun _ => 0))) := k11_47
  replace k11_48 : hp11 (x + 66) = some (.inr (4, [.ref (x + 67), .ref (x + 68), .int 0])) := k11_48
  replace k11_49 : hp11 (x + 67) = some (.inl (kC E 0, 300, .inl (fun _ => 0))) := k11_49
  replace k11_50 : hp11 (x + 68) = some (.inl (kC E 0, 432, .inl (fun _ => 0))) := k11_50
  replace k11_51 : hp11 (x + 69) = some (.inr (6, [.ref (x + 70), .ref (x + 71), .int 0])) := k11_51
  replace k11_52 : hp11 (x + 70) = some (.inl (kC E 0, 36, .inl (fun _ => 0))) := k11_52
  replace k11_53 : hp11 (x + 71) = some (.inl (kC E 0, 36, .inl (fun _ => 0))) := k11_53
  replace k11_54 : hp11 (x + 72) = some (.inr (2, [.ref (x + 73), .ref (x + 76), .ref (x + 79), .ref (x + 82), .int 0, .int 1, .int 0])) := k11_54
  replace k11_55 : hp11 (x + 73) = some (.inr (0, [.ref (x + 74), .ref (x + 75), .int 0])) := k11_55
  replace k11_56 : hp11 (x + 74) = some (.inl (kC E 0, 6, .inl (fun _ => 0))) := k11_56
  replace k11_57 : hp11 (x + 75) = some (.inl (kC E 0, 72, .inl (fun _ => 0))) := k11_57
  replace k11_58 : hp11 (x + 76) = some (.inr (7, [.ref (x + 77), .ref (x + 78), .int 0])) := k11_58
  replace k11_59 : hp11 (x + 77) = some (.inl (kC E 0, 6, .inl (fun _ => 0))) := k11_59
  replace k11_60 : hp11 (x + 78) = some (.inl (kC E 0, 24, .inl (fun _ => 0))) := k11_60
  replace k11_61 : hp11 (x + 79) = some (.inr (4, [.ref (x + 80), .ref (x + 81), .int 0])) := k11_61
  replace k11_62 : hp11 (x + 80) = some (.inl (kC E 0, 300, .inl (fun _ => 0))) := k11_62
  replace k11_63 : hp11 (x + 81) = some (.inl (kC E 0, 432, .inl (fun _ => 0))) := k11_63
  replace k11_64 : hp11 (x + 82) = some (.inr (6, [.ref (x + 83), .ref (x + 84), .int 0])) := k11_64
  replace k11_65 : hp11 (x + 83) = some (.inl (kC E 0, 36, .inl (fun _ => 0))) := k11_65
  replace k11_66 : hp11 (x + 84) = some (.inl (kC E 0, 36, .inl (fun _ => 0))) := k11_66
  replace k11_67 : hp11 (x + 85) = some (.inr (2, [.ref (x + 86), .ref (x + 89), .ref (x + 92), .ref (x + 95), .int 0, .int 1, .int 0])) := k11_67
  replace k11_68 : hp11 (x + 86) = some (.inr (0, [.ref (x + 87), .ref (x + 88), .int 0])) := k11_68
  replace k11_69 : hp11 (x + 87) = some (.inl (kC E 0, 6, .inl (fun _ => 0))) := k11_69
  replace k11_70 : hp11 (x + 88) = some (.inl (kC E 0, 72, .inl (fun _ => 0))) := k11_70
  replace k11_71 : hp11 (x + 89) = some (.inr (7, [.ref (x + 90), .ref (x + 91), .int 0])) := k11_71
  replace k11_72 : hp11 (x + 90) = some (.inl (kC E 0, 6, .inl (fun _ => 0))) := k11_72
  replace k11_73 : hp11 (x + 91) = some (.inl (kC E 0, 24, .inl (fun _ => 0))) := k11_73
  replace k11_74 : hp11 (x + 92) = some (.inr (4, [.ref (x + 93), .ref (x + 94), .int 0])) := k11_74
  replace k11_75 : hp11 (x + 93) = some (.inl (kC E 0, 300, .inl (fun _ => 0))) := k11_75
  replace k11_76 : hp11 (x + 94) = some (.inl (kC E 0, 432, .inl (fun _ => 0))) := k11_76
  replace k11_77 : hp11 (x + 95) = some (.inr (6, [.ref (x + 96), .ref (x + 97), .int 0])) := k11_77
  replace k11_78 : hp11 (x + 96) = some (.inl (kC E 0, 36, .inl (fun _ => 0))) := k11_78
  replace k11_79 : hp11 (x + 97) = some (.inl (kC E 0, 36, .inl (fun _ => 0))) := k11_79
  replace k11_80 : hp11 (x + 98) = some (.inr (2, [.ref (x + 99), .ref (x + 102), .ref (x + 105), .ref (x + 108), .int 0, .int 1, .int 0])) := k11_80
  replace k11_81 : hp11 (x + 99) = some (.inr (0, [.ref (x + 100), .ref (x + 101), .int 0])) := k11_81
  replace k11_82 : hp11 (x + 100) = some (.inl (kC E 0, 6, .inl (fun _ => 0))) := k11_82
  replace k11_83 : hp11 (x + 101) = some (.inl (kC E 0, 72, .inl (fun _ => 0))) := k11_83
  replace k11_84 : hp11 (x + 102) = some (.inr (7, [.ref (x + 103), .ref (x + 104), .int 0])) := k11_84
  replace k11_85 : hp11 (x + 103) = some (.inl (kC E 0, 6, .inl (fun _ => 0))) := k11_85
  replace k11_86 : hp11 (x + 104) = some (.inl (kC E 0, 24, .inl (fun _ => 0))) := k11_86
  replace k11_87 : hp11 (x + 105) = some (.inr (4, [.ref (x + 106), .ref (x + 107), .int 0])) := k11_87
  replace k11_88 : hp11 (x + 106) = some (.inl (kC E 0, 300, .inl (fun _ => 0))) := k11_88
  replace k11_89 : hp11 (x + 107) = some (.inl (kC E 0, 432, .inl (fun _ => 0))) := k11_89
  replace k11_90 : hp11 (x + 108) = some (.inr (6, [.ref (x + 109), .ref (x + 110), .int 0])) := k11_90
  replace k11_91 : hp11 (x + 109) = some (.inl (kC E 0, 36, .inl (fun _ => 0))) := k11_91
  replace k11_92 : hp11 (x + 110) = some (.inl (kC E 0, 36, .inl (fun _ => 0))) := k11_92
  replace k11_93 : hp11 (x + 111) = some (.inr (2, [.ref (x + 112), .ref (x + 115), .ref (x + 118), .ref (x + 121), .int 0, .int 1, .int 0])) := k11_93
  replace k11_94 : hp11 (x + 112) = some (.inr (0, [.ref (x + 113), .ref (x + 114), .int 0])) := k11_94
  replace k11_95 : hp11 (x + 113) = some (.inl (kC E 0, 6, .inl (fun _ => 0))) := k11_95
  replace k11_96 : hp11 (x + 114) = some (.inl (kC E 0, 72, .inl (fun _ => 0))) := k11_96
  replace k11_97 : hp11 (x + 115) = some (.inr (7, [.ref (x + 116), .ref (x + 117), .int 0])) := k11_97
  replace k11_98 : hp11 (x + 116) = some (.inl (kC E 0, 6, .inl (fun _ => 0))) := k11_98
  replace k11_99 : hp11 (x + 117) = some (.inl (kC E 0, 24, .inl (fun _ => 0))) := k11_99
  replace k11_100 : hp11 (x + 118) = some (.inr (4, [.ref (x + 119), .ref (x + 120), .int 0])) := k11_100
  replace k11_101 : hp11 (x + 119) = some (.inl (kC E 0, 300, .inl (fun _ => 0))) := k11_101
  replace k11_102 : hp11 (x + 120) = some (.inl (kC E 0, 432, .inl (fun _ => 0))) := k11_102
  replace k11_103 : hp11 (x + 121) = some (.inr (6, [.ref (x + 122), .ref (x + 123), .int 0])) := k11_103
  replace k11_104 : hp11 (x + 122) = some (.inl (kC E 0, 36, .inl (fun _ => 0))) := k11_104
  replace k11_105 : hp11 (x + 123) = some (.inl (kC E 0, 36, .inl (fun _ => 0))) := k11_105
  refine A_st (st' := [.ref (x + 18), .ref x]) rfl ?_
  refine A_putF X dX10_init_45 kcl_X10 5 (by decide) kw_656 ((n11 _ (by omega)).trans ((n10 _ (by omega)).trans k9)) rfl (hnm.trans rfl) rfl rfl rfl (by simp) (fun hp12 (k12 : hp12 x = some (.inr (10, [.null, .null, .ref (x + 1), .ref (x + 3), .ref (x + 16), .ref (x + 18), .null, .null]))) n12 => ?_)
  refine A_aload_n X dX10_init_48 0 rfl ?_
  refine A_iconst (v := 2) X dX10_init_49 (by decide) ?_
  refine A_newq (z := (x + 124)) (N := 2) X dX10_init_50 kw_51 kw_198 (by decide) (by decide) (Nat.le_of_ble_eq_true rfl) (Nat.le_of_ble_eq_true rfl) (Nat.le_of_ble_eq_true rfl) (fun hp13 (k13 : hp13 (x + 124) = some (.inl (kC E 5, 2, .inr (.inr (.inr (.inr (fun _ => none))))))) n13 => ?_)
  refine A_putF X dX10_init_53 kcl_X10 6 (by decide) kw_657 ((n13 _ (by omega)).trans k12) rfl (hnm.trans rfl) rfl rfl rfl (by simp) (fun hp14 (k14 : hp14 x = some (.inr (10, [.null, .null, .ref (x + 1), .ref (x + 3), .ref (x + 16), .ref (x + 18), .ref (x + 124), .null]))) n14 => ?_)
  refine A_aload_n X dX10_init_56 0 rfl ?_
  refine A_iconst (v := 2) X dX10_init_57 (by decide) ?_
  refine A_newi (z := (x + 125)) (N := 2) X dX10_init_58 kw_50 (by decide) (by decide) (Nat.le_of_ble_eq_true rfl) (Nat.le_of_ble_eq_true rfl) (Nat.le_of_ble_eq_true rfl) (fun hp15 (k15 : hp15 (x + 125) = some (.inl (kC E 0, 2, .inl (fun _ => 0)))) n15 => ?_)
  refine A_putF X dX10_init_60 kcl_X10 7 (by decide) kw_658 ((n15 _ (by omega)).trans k14) rfl (hnm.trans rfl) rfl rfl rfl (by simp) (fun hp16 (k16 : hp16 x = some (.inr (10, [.null, .null, .ref (x + 1), .ref (x + 3), .ref (x + 16), .ref (x + 18), .ref (x + 124), .ref (x + 125)]))) n16 => ?_)
  refine A_new (z := (x + 126)) (fs := [.null, .int 0]) X dX10_init_63 kcl_X8 kw_35 kw_36 kw_2 (fun j hj => by match j, hj with | 0, _ => rfl | 1, _ => rfl | j + 2, hj => exact absurd hj (by omega)) (Nat.le_of_ble_eq_true rfl) (Nat.le_of_ble_eq_true rfl) (fun hp17 (k17 : hp17 (x + 126) = some (.inr (8, [.null, .int 0]))) n17 => ?_)
  refine A_dup X dX10_init_66 rfl ?_
  refine A_c (k' := 127) (n' := 10213) rfl rfl (A_runIN (rest := [.ref (x + 126)]) X dX10_init_67 (c_X8_init (b := (x + 126)) k17) kY_X8_init kw_37 ⟨(Nat.le_of_ble_eq_true rfl), (Nat.le_of_ble_eq_true rfl), (Nat.le_of_ble_eq_true rfl), (Nat.le_of_ble_eq_true rfl)⟩ rfl (Nat.le_of_ble_eq_true rfl)) (fun v9 hp18 al9 hP => ?_)
  obtain ⟨rfl, k18_0, k18_1, n18, rfl⟩ := hP
  replace k18_0 : hp18 (x + 126) = some (.inr (8, [.ref (x + 127), .int 0])) := k18_0
  replace k18_1 : hp18 (x + 127) = some (.inl (kC E 0, 900, .inl (fun _ => 0))) := k18_1
  refine A_st (st' := [.ref (x + 126)]) rfl ?_
  refine A_astore_n (L' := [(1, .ref (x + 126)), (0, .ref x)]) X dX10_init_70 rfl (by decide) rfl ?_
  refine A_new (z := (x + 128)) (fs := [.null, .null, .null, .int 0, .int 0]) X dX10_init_71 kcl_X5 kw_211 kw_212 kw_10 (fun j hj => by match j, hj with | 0, _ => rfl | 1, _ => rfl | 2, _ => rfl | 3, _ => rfl | 4, _ => rfl | j + 5, hj => exact absurd hj (by omega)) (Nat.le_of_ble_eq_true rfl) (Nat.le_of_ble_eq_true rfl) (fun hp19 (k19 : hp19 (x + 128) = some (.inr (5, [.null, .null, .null, .int 0, .int 0]))) n19 => ?_)
  refine A_dup X dX10_init_74 rfl ?_
  refine A_aload_n X dX10_init_75 0 rfl ?_
  refine A_c (k' := 142) (n' := 11154) rfl rfl (A_runI (rest := [.ref (x + 128)]) X dX10_init_76 (c_X5_init (x := x) k19) kY_X5_init kw_213 ⟨(Nat.le_of_ble_eq_true rfl), (Nat.le_of_ble_eq_true rfl), (Nat.le_of_ble_eq_true rfl), (Nat.le_of_ble_eq_true rfl)⟩ rfl (Nat.le_of_ble_eq_true rfl)) (fun v9 hp20 al9 hP => ?_)
  obtain ⟨rfl, k20_0, k20_1, k20_2, k20_3, k20_4, k20_5, k20_6, k20_7, k20_8, k20_9, k20_10, k20_11, k20_12, k20_13, k20_14, n20, rfl⟩ := hP
  replace k20_0 : hp20 (x + 128) = some (.inr (5, [.ref (x + 126), .ref (x + 142), .ref (x + 129), .int 0, .int (-1)])) := k20_0
  replace k20_1 : hp20 (x + 129) = some (.inr (2, [.ref (x + 130), .ref (x + 133), .ref (x + 136), .ref (x + 139), .int 0, .int 1, .int 0])) := k20_1
  replace k20_2 : hp20 (x + 130) = some (.inr (0, [.ref (x + 131), .ref (x + 132), .int 0])) := k20_2
  replace k20_3 : hp20 (x + 131) = some (.inl (kC E 0, 6, .inl (fun _ => 0))) := k20_3
  replace k20_4 : hp20 (x + 132) = some (.inl (kC E 0, 72, .inl (fun _ => 0))) := k20_4
  replace k20_5 : hp20 (x + 133) = some (.inr (7, [.ref (x + 134), .ref (x + 135), .int 0])) := k20_5
  replace k20_6 : hp20 (x + 134) = some (.inl (kC E 0, 6, .inl (fun _ => 0))) := k20_6
  replace k20_7 : hp20 (x + 135) = some (.inl (kC E 0, 24, .inl (fun _ => 0))) := k20_7
  replace k20_8 : hp20 (x + 136) = some (.inr (4, [.ref (x + 137), .ref (x + 138), .int 0])) := k20_8
  replace k20_9 : hp20 (x + 137) = some (.inl (kC E 0, 300, .inl (fun _ => 0))) := k20_9
  replace k20_10 : hp20 (x + 138) = some (.inl (kC E 0, 432, .inl (fun _ => 0))) := k20_10
  replace k20_11 : hp20 (x + 139) = some (.inr (6, [.ref (x + 140), .ref (x + 141), .int 0])) := k20_11
  replace k20_12 : hp20 (x + 140) = some (.inl (kC E 0, 36, .inl (fun _ => 0))) := k20_12
  replace k20_13 : hp20 (x + 141) = some (.inl (kC E 0, 36, .inl (fun _ => 0))) := k20_13
  replace k20_14 : hp20 (x + 142) = some (.inr (9, [.ref (x + 126), .int 0, .int 0, .int 0, .int 0])) := k20_14
  refine A_st (st' := [.ref (x + 128)]) rfl ?_
  refine A_astore_n (L' := [(2, .ref (x + 128)), (1, .ref (x + 126)), (0, .ref x)]) X dX10_init_79 rfl (by decide) rfl ?_
  refine A_aload_n X dX10_init_80 1 rfl ?_
  refine A_ldcS (j := 0) X dX10_init_81 (List.mem_of_getElem? (i := 0) rfl) ?_
  refine A_c (k' := 142) (n' := 11154) rfl rfl (A_runV (rest := []) X dX10_init_83 (c_X8_appendString ((n20 _ (by omega)).trans ((n19 _ (by omega)).trans k18_0)) ((n20 _ (by omega)).trans ((n19 _ (by omega)).trans k18_1)) (by decide) hct1) kY_X8_appendString kw_265 ((n20 _ (by omega)).trans ((n19 _ (by omega)).trans k18_0)) rfl rfl ⟨(Nat.le_of_ble_eq_true rfl), (Nat.le_of_ble_eq_true rfl), (Nat.le_of_ble_eq_true rfl), (Nat.le_of_ble_eq_true rfl)⟩ rfl (Nat.le_of_ble_eq_true rfl)) (fun v9 hp21 al9 hP => ?_)
  obtain ⟨rfl, k21_0, k21_1, n21, rfl⟩ := hP
  replace k21_0 : hp21 (x + 126) = some (.inr (8, [.ref (x + 127), .int t1.1])) := k21_0
  replace k21_1 : hp21 (x + 127) = some (.inl (kC E 0, 900, .inl t1.2)) := k21_1
  refine A_st (st' := []) rfl ?_
  refine A_aload_n X dX10_init_86 0 rfl ?_
  refine A_c (k' := 142) (n' := 11154) rfl rfl (A_runV (rest := []) X dX10_init_87 (c_X5_parse k21_0 k21_1 ((n21 _ (by omega) (by omega)).trans k20_0) ((n21 _ (by omega) (by omega)).trans k20_1) ((n21 _ (by omega) (by omega)).trans k20_2) ((n21 _ (by omega) (by omega)).trans k20_3) ((n21 _ (by omega) (by omega)).trans k20_4) ((n21 _ (by omega) (by omega)).trans k20_5) ((n21 _ (by omega) (by omega)).trans k20_6) ((n21 _ (by omega) (by omega)).trans k20_7) ((n21 _ (by omega) (by omega)).trans k20_8) ((n21 _ (by omega) (by omega)).trans k20_9) ((n21 _ (by omega) (by omega)).trans k20_10) ((n21 _ (by omega) (by omega)).trans k20_11) ((n21 _ (by omega) (by omega)).trans k20_12) ((n21 _ (by omega) (by omega)).trans k20_13) ((n21 _ (by omega) (by omega)).trans k20_14)  hct2) kY_X5_parse kw_324 ((n21 _ (by omega) (by omega)).trans k20_0) rfl rfl ⟨(Nat.le_of_ble_eq_true rfl), (Nat.le_of_ble_eq_true rfl), (Nat.le_of_ble_eq_true rfl), (Nat.le_of_ble_eq_true rfl)⟩ rfl (Nat.le_of_ble_eq_true rfl)) (fun v9 hp22 al9 hP => ?_)
  obtain ⟨rfl, zt2, k22_0, k22_1, k22_2, k22_3, k22_4, k22_5, k22_6, k22_7, k22_8, k22_9, k22_10, k22_11, k22_12, k22_13, k22_14, n22, rfl⟩ := hP
  replace k22_0 : hp22 (x + 128) = some (.inr (5, [.ref (x + 126), .ref (x + 142), .ref (x + 129), .int t2.2.1, .int t2.2.2.1])) := k22_0
  replace k22_1 : hp22 (x + 129) = some (.inr (2, [.ref (x + 130), .ref (x + 133), .ref (x + 136), .ref (x + 139), .int t2.2.2.2.1, .int t2.2.2.2.2.1, .int t2.2.2.2.2.2.1])) := k22_1
  replace k22_2 : hp22 (x + 130) = some (.inr (0, [.ref (x + 131), .ref (x + 132), .int t2.2.2.2.2.2.2.1])) := k22_2
  replace k22_3 : hp22 (x + 131) = some (.inl (kC E 0, 6, .inl t2.2.2.2.2.2.2.2.1)) := k22_3
  replace k22_4 : hp22 (x + 132) = some (.inl (kC E 0, 72, .inl t2.2.2.2.2.2.2.2.2.1)) := k22_4
  replace k22_5 : hp22 (x + 133) = some (.inr (7, [.ref (x + 134), .ref (x + 135), .int t2.2.2.2.2.2.2.2.2.2.1])) := k22_5
  replace k22_6 : hp22 (x + 134) = some (.inl (kC E 0, 6, .inl t2.2.2.2.2.2.2.2.2.2.2.1)) := k22_6
  replace k22_7 : hp22 (x + 135) = some (.inl (kC E 0, 24, .inl t2.2.2.2.2.2.2.2.2.2.2.2.1)) := k22_7
  replace k22_8 : hp22 (x + 136) = some (.inr (4, [.ref (x + 137), .ref (x + 138), .int t2.2.2.2.2.2.2.2.2.2.2.2.2.1])) := k22_8
  replace k22_9 : hp22 (x + 137) = some (.inl (kC E 0, 300, .inl t2.2.2.2.2.2.2.2.2.2.2.2.2.2.1)) := k22_9
  replace k22_10 : hp22 (x + 138) = some (.inl (kC E 0, 432, .inl t2.2.2.2.2.2.2.2.2.2.2.2.2.2.2.1)) := k22_10
  replace k22_11 : hp22 (x + 139) = some (.inr (6, [.ref (x + 140), .ref (x + 141), .int t2.2.2.2.2.2.2.2.2.2.2.2.2.2.2.2.1])) := k22_11
  replace k22_12 : hp22 (x + 140) = some (.inl (kC E 0, 36, .inl t2.2.2.2.2.2.2.2.2.2.2.2.2.2.2.2.2.1)) := k22_12
  replace k22_13 : hp22 (x + 141) = some (.inl (kC E 0, 36, .inl t2.2.2.2.2.2.2.2.2.2.2.2.2.2.2.2.2.2.1)) := k22_13
  replace k22_14 : hp22 (x + 142) = some (.inr (9, [.ref (x + 126), .int t2.2.2.2.2.2.2.2.2.2.2.2.2.2.2.2.2.2.2.1, .int t2.2.2.2.2.2.2.2.2.2.2.2.2.2.2.2.2.2.2.2.1, .int t2.2.2.2.2.2.2.2.2.2.2.2.2.2.2.2.2.2.2.2.2.1, .int t2.2.2.2.2.2.2.2.2.2.2.2.2.2.2.2.2.2.2.2.2.2])) := k22_14
  refine A_st (st' := [.int t2.1]) rfl ?_
  refine A_pop X dX10_init_90 rfl ?_
  refine A_aload_n X dX10_init_91 1 rfl ?_
  refine A_iconst (v := 0) X dX10_init_92 (by decide) ?_
  refine A_c (k' := 142) (n' := 11154) rfl rfl (A_runV (rest := []) X dX10_init_93 (c_X8_cutTo ((n22 _ (by omega) (by omega) (by omega) (by omega) (by omega) (by omega) (by omega) (by omega) (by omega) (by omega) (by omega) (by omega) (by omega) (by omega) (by omega)).trans k21_0)  hct3) kY_X8_cutTo kw_618 ((n22 _ (by omega) (by omega) (by omega) (by omega) (by omega) (by omega) (by omega) (by omega) (by omega) (by omega) (by omega) (by omega) (by omega) (by omega) (by omega)).trans k21_0) rfl rfl ⟨(Nat.le_of_ble_eq_true rfl), (Nat.le_of_ble_eq_true rfl), (Nat.le_of_ble_eq_true rfl), (Nat.le_of_ble_eq_true rfl)⟩ rfl (Nat.le_of_ble_eq_true rfl)) (fun v9 hp23 al9 hP => ?_)
  obtain ⟨rfl, k23_0, n23, rfl⟩ := hP
  replace k23_0 : hp23 (x + 126) = some (.inr (8, [.ref (x + 127), .int t3])) := k23_0
  refine A_st (st' := []) rfl ?_
  refine A_aload_n X dX10_init_96 2 rfl ?_
  refine A_aload_n X dX10_init_97 1 rfl ?_
  refine A_putF X dX10_init_98 kcl_X10 0 (by decide) kw_651 ((n23 _ (by omega)).trans ((n22 _ (by omega) (by omega) (by omega) (by omega) (by omega) (by omega) (by omega) (by omega) (by omega) (by omega) (by omega) (by omega) (by omega) (by omega) (by omega)).trans ((n21 _ (by omega) (by omega)).trans ((n20 _ (by omega)).trans ((n19 _ (by omega)).trans ((n18 _ (by omega)).trans ((n17 _ (by omega)).trans k16))))))) rfl (hnm.trans rfl) rfl rfl rfl (by simp) (fun hp24 (k24 : hp24 x = some (.inr (10, [.ref (x + 126), .null, .ref (x + 1), .ref (x + 3), .ref (x + 16), .ref (x + 18), .ref (x + 124), .ref (x + 125)]))) n24 => ?_)
  refine A_aload_n X dX10_init_101 2 rfl ?_
  refine A_aload_n X dX10_init_102 0 rfl ?_
  refine A_putF X dX10_init_103 kcl_X10 1 (by decide) kw_652 k24 rfl (hnm.trans rfl) rfl rfl rfl (by simp) (fun hp25 (k25 : hp25 x = some (.inr (10, [.ref (x + 126), .ref (x + 128), .ref (x + 1), .ref (x + 3), .ref (x + 16), .ref (x + 18), .ref (x + 124), .ref (x + 125)]))) n25 => ?_)
  refine A_aload_n X dX10_init_106 2 rfl ?_
  refine A_get X dX10_init_107 kcl_X10 3 (by decide) kw_654 k25 rfl ?_
  refine A_aload_n X dX10_init_110 0 rfl ?_
  refine A_get X dX10_init_111 kcl_X5 2 (by decide) kw_248 ((n25 _ (by omega)).trans ((n24 _ (by omega)).trans ((n23 _ (by omega)).trans k22_0))) rfl ?_
  refine A_c (k' := 142) (n' := 11154) rfl rfl (A_runV (rest := []) X dX10_init_114 (c_X2_copyFrom ((n25 _ (by omega)).trans ((n24 _ (by omega)).trans ((n23 _ (by omega)).trans ((n22 _ (by omega) (by omega) (by omega) (by omega) (by omega) (by omega) (by omega) (by omega) (by omega) (by omega) (by omega) (by omega) (by omega) (by omega) (by omega)).trans ((n21 _ (by omega) (by omega)).trans ((n20 _ (by omega)).trans ((n19 _ (by omega)).trans ((n18 _ (by omega)).trans ((n17 _ (by omega)).trans ((n16 _ (by omega)).trans ((n15 _ (by omega)).trans ((n14 _ (by omega)).trans ((n13 _ (by omega)).trans ((n12 _ (by omega)).trans ((n11 _ (by omega)).trans ((n10 _ (by omega)).trans ((n9 _ (by omega)).trans ((n8 _ (by omega)).trans ((n7 _ (by omega)).trans ((n6 _ (by omega)).trans k5_0)))))))))))))))))))) ((n25 _ (by omega)).trans ((n24 _ (by omega)).trans ((n23 _ (by omega)).trans ((n22 _ (by omega) (by omega) (by omega) (by omega) (by omega) (by omega) (by omega) (by omega) (by omega) (by omega) (by omega) (by omega) (by omega) (by omega) (by omega)).trans ((n21 _ (by omega) (by omega)).trans ((n20 _ (by omega)).trans ((n19 _ (by omega)).trans ((n18 _ (by omega)).trans ((n17 _ (by omega)).trans ((n16 _ (by omega)).trans ((n15 _ (by omega)).trans ((n14 _ (by omega)).trans ((n13 _ (by omega)).trans ((n12 _ (by omega)).trans ((n11 _ (by omega)).trans ((n10 _ (by omega)).trans ((n9 _ (by omega)).trans ((n8 _ (by omega)).trans ((n7 _ (by omega)).trans ((n6 _ (by omega)).trans k5_1)))))))))))))))))))) ((n25 _ (by omega)).trans ((n24 _ (by omega)).trans ((n23 _ (by omega)).trans ((n22 _ (by omega) (by omega) (by omega) (by omega) (by omega) (by omega) (by omega) (by omega) (by omega) (by omega) (by omega) (by omega) (by omega) (by omega) (by omega)).trans ((n21 _ (by omega) (by omega)).trans ((n20 _ (by omega)).trans ((n19 _ (by omega)).trans ((n18 _ (by omega)).trans ((n17 _ (by omega)).trans ((n16 _ (by omega)).trans ((n15 _ (by omega)).trans ((n14 _ (by omega)).trans ((n13 _ (by omega)).trans ((n12 _ (by omega)).trans ((n11 _ (by omega)).trans ((n10 _ (by omega)).trans ((n9 _ (by omega)).trans ((n8 _ (by omega)).trans ((n7 _ (by omega)).trans ((n6 _ (by omega)).trans k5_2)))))))))))))))))))) ((n25 _ (by omega)).trans ((n24 _ (by omega)).trans ((n23 _ (by omega)).trans ((n22 _ (by omega) (by omega) (by omega) (by omega) (by omega) (by omega) (by omega) (by omega) (by omega) (by omega) (by omega) (by omega) (by omega) (by omega) (by omega)).trans ((n21 _ (by omega) (by omega)).trans ((n20 _ (by omega)).trans ((n19 _ (by omega)).trans ((n18 _ (by omega)).trans ((n17 _ (by omega)).trans ((n16 _ (by omega)).trans ((n15 _ (by omega)).trans ((n14 _ (by omega)).trans ((n13 _ (by omega)).trans ((n12 _ (by omega)).trans ((n11 _ (by omega)).trans ((n10 _ (by omega)).trans ((n9 _ (by omega)).trans ((n8 _ (by omega)).trans ((n7 _ (by omega)).trans ((n6 _ (by omega)).trans k5_3)))))))))))))))))))) ((n25 _ (by omega)).trans ((n24 _ (by omega)).trans ((n23 _ (by omega)).trans ((n22 _ (by omega) (by omega) (by omega) (by omega) (by omega) (by omega) (by omega) (by omega) (by omega) (by omega) (by omega) (by omega) (by omega) (by omega) (by omega)).trans ((n21 _ (by omega) (by omega)).trans ((n20 _ (by omega)).trans ((n19 _ (by omega)).trans ((n18 _ (by omega)).trans ((n17 _ (by omega)).trans ((n16 _ (by omega)).trans ((n15 _ (by omega)).trans ((n14 _ (by omega)).trans ((n13 _ (by omega)).trans ((n12 _ (by omega)).trans ((n11 _ (by omega)).trans ((n10 _ (by omega)).trans ((n9 _ (by omega)).trans ((n8 _ (by omega)).trans ((n7 _ (by omega)).trans ((n6 _ (by omega)).trans k5_4)))))))))))))))))))) ((n25 _ (by omega)).trans ((n24 _ (by omega)).trans ((n23 _ (by omega)).trans ((n22 _ (by omega) (by omega) (by omega) (by omega) (by omega) (by omega) (by omega) (by omega) (by omega) (by omega) (by omega) (by omega) (by omega) (by omega) (by omega)).trans ((n21 _ (by omega) (by omega)).trans ((n20 _ (by omega)).trans ((n19 _ (by omega)).trans ((n18 _ (by omega)).trans ((n17 _ (by omega)).trans ((n16 _ (by omega)).trans ((n15 _ (by omega)).trans ((n14 _ (by omega)).trans ((n13 _ (by omega)).trans ((n12 _ (by omega)).trans ((n11 _ (by omega)).trans ((n10 _ (by omega)).trans ((n9 _ (by omega)).trans ((n8 _ (by omega)).trans ((n7 _ (by omega)).trans ((n6 _ (by omega)).trans k5_5)))))))))))))))))))) ((n25 _ (by omega)).trans ((n24 _ (by omega)).trans ((n23 _ (by omega)).trans ((n22 _ (by omega) (by omega) (by omega) (by omega) (by omega) (by omega) (by omega) (by omega) (by omega) (by omega) (by omega) (by omega) (by omega) (by omega) (by omega)).trans ((n21 _ (by omega) (by omega)).trans ((n20 _ (by omega)).trans ((n19 _ (by omega)).trans ((n18 _ (by omega)).trans ((n17 _ (by omega)).trans ((n16 _ (by omega)).trans ((n15 _ (by omega)).trans ((n14 _ (by omega)).trans ((n13 _ (by omega)).trans ((n12 _ (by omega)).trans ((n11 _ (by omega)).trans ((n10 _ (by omega)).trans ((n9 _ (by omega)).trans ((n8 _ (by omega)).trans ((n7 _ (by omega)).trans ((n6 _ (by omega)).trans k5_6)))))))))))))))))))) ((n25 _ (by omega)).trans ((n24 _ (by omega)).trans ((n23 _ (by omega)).trans ((n22 _ (by omega) (by omega) (by omega) (by omega) (by omega) (by omega) (by omega) (by omega) (by omega) (by omega) (by omega) (by omega) (by omega) (by omega) (by omega)).trans ((n21 _ (by omega) (by omega)).trans ((n20 _ (by omega)).trans ((n19 _ (by omega)).trans ((n18 _ (by omega)).trans ((n17 _ (by omega)).trans ((n16 _ (by omega)).trans ((n15 _ (by omega)).trans ((n14 _ (by omega)).trans ((n13 _ (by omega)).trans ((n12 _ (by omega)).trans ((n11 _ (by omega)).trans ((n10 _ (by omega)).trans ((n9 _ (by omega)).trans ((n8 _ (by omega)).trans ((n7 _ (by omega)).trans ((n6 _ (by omega)).trans k5_7)))))))))))))))))))) ((n25 _ (by omega)).trans ((n24 _ (by omega)).trans ((n23 _ (by omega)).trans ((n22 _ (by omega) (by omega) (by omega) (by omega) (by omega) (by omega) (by omega) (by omega) (by omega) (by omega) (by omega) (by omega) (by omega) (by omega) (by omega)).trans ((n21 _ (by omega) (by omega)).trans ((n20 _ (by omega)).trans ((n19 _ (by omega)).trans ((n18 _ (by omega)).trans ((n17 _ (by omega)).trans ((n16 _ (by omega)).trans ((n15 _ (by omega)).trans ((n14 _ (by omega)).trans ((n13 _ (by omega)).trans ((n12 _ (by omega)).trans ((n11 _ (by omega)).trans ((n10 _ (by omega)).trans ((n9 _ (by omega)).trans ((n8 _ (by omega)).trans ((n7 _ (by omega)).trans ((n6 _ (by omega)).trans k5_8)))))))))))))))))))) ((n25 _ (by omega)).trans ((n24 _ (by omega)).trans ((n23 _ (by omega)).trans ((n22 _ (by omega) (by omega) (by omega) (by omega) (by omega) (by omega) (by omega) (by omega) (by omega) (by omega) (by omega) (by omega) (by omega) (by omega) (by omega)).trans ((n21 _ (by omega) (by omega)).trans ((n20 _ (by omega)).trans ((n19 _ (by omega)).trans ((n18 _ (by omega)).trans ((n17 _ (by omega)).trans ((n16 _ (by omega)).trans ((n15 _ (by omega)).trans ((n14 _ (by omega)).trans ((n13 _ (by omega)).trans ((n12 _ (by omega)).trans ((n11 _ (by omega)).trans ((n10 _ (by omega)).trans ((n9 _ (by omega)).trans ((n8 _ (by omega)).trans ((n7 _ (by omega)).trans ((n6 _ (by omega)).trans k5_9)))))))))))))))))))) ((n25 _ (by omega)).trans ((n24 _ (by omega)).trans ((n23 _ (by omega)).trans ((n22 _ (by omega) (by omega) (by omega) (by omega) (by omega) (by omega) (by omega) (by omega) (by omega) (by omega) (by omega) (by omega) (by omega) (by omega) (by omega)).trans ((n21 _ (by omega) (by omega)).trans ((n20 _ (by omega)).trans ((n19 _ (by omega)).trans ((n18 _ (by omega)).trans ((n17 _ (by omega)).trans ((n16 _ (by omega)).trans ((n15 _ (by omega)).trans ((n14 _ (by omega)).trans ((n13 _ (by omega)).trans ((n12 _ (by omega)).trans ((n11 _ (by omega)).trans ((n10 _ (by omega)).trans ((n9 _ (by omega)).trans ((n8 _ (by omega)).trans ((n7 _ (by omega)).trans ((n6 _ (by omega)).trans k5_10)))))))))))))))))))) ((n25 _ (by omega)).trans ((n24 _ (by omega)).trans ((n23 _ (by omega)).trans ((n22 _ (by omega) (by omega) (by omega) (by omega) (by omega) (by omega) (by omega) (by omega) (by omega) (by omega) (by omega) (by omega) (by omega) (by omega) (by omega)).trans ((n21 _ (by omega) (by omega)).trans ((n20 _ (by omega)).trans ((n19 _ (by omega)).trans ((n18 _ (by omega)).trans ((n17 _ (by omega)).trans ((n16 _ (by omega)).trans ((n15 _ (by omega)).trans ((n14 _ (by omega)).trans ((n13 _ (by omega)).trans ((n12 _ (by omega)).trans ((n11 _ (by omega)).trans ((n10 _ (by omega)).trans ((n9 _ (by omega)).trans ((n8 _ (by omega)).trans ((n7 _ (by omega)).trans ((n6 _ (by omega)).trans k5_11)))))))))))))))))))) ((n25 _ (by omega)).trans ((n24 _ (by omega)).trans ((n23 _ (by omega)).trans ((n22 _ (by omega) (by omega) (by omega) (by omega) (by omega) (by omega) (by omega) (by omega) (by omega) (by omega) (by omega) (by omega) (by omega) (by omega) (by omega)).trans ((n21 _ (by omega) (by omega)).trans ((n20 _ (by omega)).trans ((n19 _ (by omega)).trans ((n18 _ (by omega)).trans ((n17 _ (by omega)).trans ((n16 _ (by omega)).trans ((n15 _ (by omega)).trans ((n14 _ (by omega)).trans ((n13 _ (by omega)).trans ((n12 _ (by omega)).trans ((n11 _ (by omega)).trans ((n10 _ (by omega)).trans ((n9 _ (by omega)).trans ((n8 _ (by omega)).trans ((n7 _ (by omega)).trans ((n6 _ (by omega)).trans k5_12)))))))))))))))))))) ((n25 _ (by omega)).trans ((n24 _ (by omega)).trans ((n23 _ (by omega)).trans k22_1))) ((n25 _ (by omega)).trans ((n24 _ (by omega)).trans ((n23 _ (by omega)).trans k22_2))) ((n25 _ (by omega)).trans ((n24 _ (by omega)).trans ((n23 _ (by omega)).trans k22_3))) ((n25 _ (by omega)).trans ((n24 _ (by omega)).trans ((n23 _ (by omega)).trans k22_4))) ((n25 _ (by omega)).trans ((n24 _ (by omega)).trans ((n23 _ (by omega)).trans k22_5))) ((n25 _ (by omega)).trans ((n24 _ (by omega)).trans ((n23 _ (by omega)).trans k22_6))) ((n25 _ (by omega)).trans ((n24 _ (by omega)).trans ((n23 _ (by omega)).trans k22_7))) ((n25 _ (by omega)).trans ((n24 _ (by omega)).trans ((n23 _ (by omega)).trans k22_8))) ((n25 _ (by omega)).trans ((n24 _ (by omega)).trans ((n23 _ (by omega)).trans k22_9))) ((n25 _ (by omega)).trans ((n24 _ (by omega)).trans ((n23 _ (by omega)).trans k22_10))) ((n25 _ (by omega)).trans ((n24 _ (by omega)).trans ((n23 _ (by omega)).trans k22_11))) ((n25 _ (by omega)).trans ((n24 _ (by omega)).trans ((n23 _ (by omega)).trans k22_12))) ((n25 _ (by omega)).trans ((n24 _ (by omega)).trans ((n23 _ (by omega)).trans k22_13))) (by omega) hct4) kY_X2_copyFrom kw_622 ((n25 _ (by omega)).trans ((n24 _ (by omega)).trans ((n23 _ (by omega)).trans ((n22 _ (by omega) (by omega) (by omega) (by omega) (by omega) (by omega) (by omega) (by omega) (by omega) (by omega) (by omega) (by omega) (by omega) (by omega) (by omega)).trans ((n21 _ (by omega) (by omega)).trans ((n20 _ (by omega)).trans ((n19 _ (by omega)).trans ((n18 _ (by omega)).trans ((n17 _ (by omega)).trans ((n16 _ (by omega)).trans ((n15 _ (by omega)).trans ((n14 _ (by omega)).trans ((n13 _ (by omega)).trans ((n12 _ (by omega)).trans ((n11 _ (by omega)).trans ((n10 _ (by omega)).trans ((n9 _ (by omega)).trans ((n8 _ (by omega)).trans ((n7 _ (by omega)).trans ((n6 _ (by omega)).trans k5_0)))))))))))))))))))) rfl rfl ⟨(Nat.le_of_ble_eq_true rfl), (Nat.le_of_ble_eq_true rfl), (Nat.le_of_ble_eq_true rfl), (Nat.le_of_ble_eq_true rfl)⟩ rfl (Nat.le_of_ble_eq_true rfl)) (fun v9 hp26 al9 hP => ?_)
  obtain ⟨rfl, k26_0, k26_1, k26_2, k26_3, k26_4, k26_5, k26_6, k26_7, k26_8, k26_9, k26_10, k26_11, k26_12, n26, rfl⟩ := hP
  replace k26_0 : hp26 (x + 3) = some (.inr (2, [.ref (x + 4), .ref (x + 7), .ref (x + 10), .ref (x + 13), .int t4.1, .int t4.2.1, .int t4.2.2.1])) := k26_0
  replace k26_1 : hp26 (x + 4) = some (.inr (0, [.ref (x + 5), .ref (x + 6), .int t4.2.2.2.1])) := k26_1
  replace k26_2 : hp26 (x + 5) = some (.inl (kC E 0, 6, .inl t4.2.2.2.2.1)) := k26_2
  replace k26_3 : hp26 (x + 6) = some (.inl (kC E 0, 72, .inl t4.2.2.2.2.2.1)) := k26_3
  replace k26_4 : hp26 (x + 7) = some (.inr (7, [.ref (x + 8), .ref (x + 9), .int t4.2.2.2.2.2.2.1])) := k26_4
  replace k26_5 : hp26 (x + 8) = some (.inl (kC E 0, 6, .inl t4.2.2.2.2.2.2.2.1)) := k26_5
  replace k26_6 : hp26 (x + 9) = some (.inl (kC E 0, 24, .inl t4.2.2.2.2.2.2.2.2.1)) := k26_6
  replace k26_7 : hp26 (x + 10) = some (.inr (4, [.ref (x + 11), .ref (x + 12), .int t4.2.2.2.2.2.2.2.2.2.1])) := k26_7
  replace k26_8 : hp26 (x + 11) = some (.inl (kC E 0, 300, .inl t4.2.2.2.2.2.2.2.2.2.2.1)) := k26_8
  replace k26_9 : hp26 (x + 12) = some (.inl (kC E 0, 432, .inl t4.2.2.2.2.2.2.2.2.2.2.2.1)) := k26_9
  replace k26_10 : hp26 (x + 13) = some (.inr (6, [.ref (x + 14), .ref (x + 15), .int t4.2.2.2.2.2.2.2.2.2.2.2.2.1])) := k26_10
  replace k26_11 : hp26 (x + 14) = some (.inl (kC E 0, 36, .inl t4.2.2.2.2.2.2.2.2.2.2.2.2.2.1)) := k26_11
  replace k26_12 : hp26 (x + 15) = some (.inl (kC E 0, 36, .inl t4.2.2.2.2.2.2.2.2.2.2.2.2.2.2)) := k26_12
  refine A_st (st' := []) rfl ?_
  refine A_iconst (v := 0) X dX10_init_117 (by decide) ?_
  refine A_istore_n (L' := [(3, .int 0), (2, .ref (x + 128)), (1, .ref (x + 126)), (0, .ref x)]) X dX10_init_118 rfl (by decide) rfl ?_
  refine A_iload_n X dX10_init_119 0 rfl ?_
  refine A_aload_n X dX10_init_120 3 rfl ?_
  refine A_get X dX10_init_121 kcl_X10 6 (by decide) kw_657 ((n26 _ (by omega) (by omega) (by omega) (by omega) (by omega) (by omega) (by omega) (by omega) (by omega) (by omega) (by omega) (by omega) (by omega)).trans k25) rfl ?_
  refine A_alen (t := 5) (v := 2) X dX10_init_124 ((n26 _ (by omega) (by omega) (by omega) (by omega) (by omega) (by omega) (by omega) (by omega) (by omega) (by omega) (by omega) (by omega) (by omega)).trans ((n25 _ (by omega)).trans ((n24 _ (by omega)).trans ((n23 _ (by omega)).trans ((n22 _ (by omega) (by omega) (by omega) (by omega) (by omega) (by omega) (by omega) (by omega) (by omega) (by omega) (by omega) (by omega) (by omega) (by omega) (by omega)).trans ((n21 _ (by omega) (by omega)).trans ((n20 _ (by omega)).trans ((n19 _ (by omega)).trans ((n18 _ (by omega)).trans ((n17 _ (by omega)).trans ((n16 _ (by omega)).trans ((n15 _ (by omega)).trans ((n14 _ (by omega)).trans k13))))))))))))) rfl (by decide) ?_
  refine A_icmp_ge_f (tgt := 147) X dX10_init_125 (by decide) (by decide) ?_
  refine A_aload_n X dX10_init_128 3 rfl ?_
  refine A_get X dX10_init_129 kcl_X10 6 (by decide) kw_657 ((n26 _ (by omega) (by omega) (by omega) (by omega) (by omega) (by omega) (by omega) (by omega) (by omega) (by omega) (by omega) (by omega) (by omega)).trans k25) rfl ?_
  refine A_iload_n X dX10_init_132 0 rfl ?_
  refine A_new (z := (x + 143)) (fs := [.null, .null, .null, .null, .int 0, .int 0, .int 0]) X dX10_init_133 kcl_X2 kw_51 kw_52 kw_3 (fun j hj => by match j, hj with | 0, _ => rfl | 1, _ => rfl | 2, _ => rfl | 3, _ => rfl | 4, _ => rfl | 5, _ => rfl | 6, _ => rfl | j + 7, hj => exact absurd hj (by omega)) (Nat.le_of_ble_eq_true rfl) (Nat.le_of_ble_eq_true rfl) (fun hp27 (k27 : hp27 (x + 143) = some (.inr (2, [.null, .null, .null, .null, .int 0, .int 0, .int 0]))) n27 => ?_)
  refine A_dup X dX10_init_136 rfl ?_
  refine A_c (k' := 155) (n' := 12085) rfl rfl (A_runIN (rest := [.ref (x + 143), .int 0, .ref (x + 124)]) X dX10_init_137 (c_X2_init (b := (x + 143)) k27) kY_X2_init kw_53 ⟨(Nat.le_of_ble_eq_true rfl), (Nat.le_of_ble_eq_true rfl), (Nat.le_of_ble_eq_true rfl), (Nat.le_of_ble_eq_true rfl)⟩ rfl (Nat.le_of_ble_eq_true rfl)) (fun v9 hp28 al9 hP => ?_)
  obtain ⟨rfl, k28_0, k28_1, k28_2, k28_3, k28_4, k28_5, k28_6, k28_7, k28_8, k28_9, k28_10, k28_11, k28_12, n28, rfl⟩ := hP
  replace k28_0 : hp28 (x + 143) = some (.inr (2, [.ref (x + 144), .ref (x + 147), .ref (x + 150), .ref (x + 153), .int 0, .int 1, .int 0])) := k28_0
  replace k28_1 : hp28 (x + 144) = some (.inr (0, [.ref (x + 145), .ref (x + 146), .int 0])) := k28_1
  replace k28_2 : hp28 (x + 145) = some (.inl (kC E 0, 6, .inl (fun _ => 0))) := k28_2
  replace k28_3 : hp28 (x + 146) = some (.inl (kC E 0, 72, .inl (fun _ => 0))) := k28_3
  replace k28_4 : hp28 (x + 147) = some (.inr (7, [.ref (x + 148), .ref (x + 149), .int 0])) := k28_4
  replace k28_5 : hp28 (x + 148) = some (.inl (kC E 0, 6, .inl (fun _ => 0))) := k28_5
  replace k28_6 : hp28 (x + 149) = some (.inl (kC E 0, 24, .inl (fun _ => 0))) := k28_6
  replace k28_7 : hp28 (x + 150) = some (.inr (4, [.ref (x + 151), .ref (x + 152), .int 0])) := k28_7
  replace k28_8 : hp28 (x + 151) = some (.inl (kC E 0, 300, .inl (fun _ => 0))) := k28_8
  replace k28_9 : hp28 (x + 152) = some (.inl (kC E 0, 432, .inl (fun _ => 0))) := k28_9
  replace k28_10 : hp28 (x + 153) = some (.inr (6, [.ref (x + 154), .ref (x + 155), .int 0])) := k28_10
  replace k28_11 : hp28 (x + 154) = some (.inl (kC E 0, 36, .inl (fun _ => 0))) := k28_11
  replace k28_12 : hp28 (x + 155) = some (.inl (kC E 0, 36, .inl (fun _ => 0))) := k28_12
  refine A_st (st' := [.ref (x + 143), .int 0, .ref (x + 124)]) rfl ?_
  refine A_aast X dX10_init_140 ((n28 _ (by omega)).trans ((n27 _ (by omega)).trans ((n26 _ (by omega) (by omega) (by omega) (by omega) (by omega) (by omega) (by omega) (by omega) (by omega) (by omega) (by omega) (by omega) (by omega)).trans ((n25 _ (by omega)).trans ((n24 _ (by omega)).trans ((n23 _ (by omega)).trans ((n22 _ (by omega) (by omega) (by omega) (by omega) (by omega) (by omega) (by omega) (by omega) (by omega) (by omega) (by omega) (by omega) (by omega) (by omega) (by omega)).trans ((n21 _ (by omega) (by omega)).trans ((n20 _ (by omega)).trans ((n19 _ (by omega)).trans ((n18 _ (by omega)).trans ((n17 _ (by omega)).trans ((n16 _ (by omega)).trans ((n15 _ (by omega)).trans ((n14 _ (by omega)).trans k13))))))))))))))) k28_0 rfl rfl (by decide) (fun hp29 (k29 : hp29 (x + 124) = some (.inl (kC E 5, 2, .inr (.inr (.inr (.inr (va_up (fun _ => none) (Int32.toNatClampNeg 0) (some (x + 143))))))))) n29 => ?_)
  refine A_iinc (j := 0) (v := 1) (L' := [(3, .int 1), (2, .ref (x + 128)), (1, .ref (x + 126)), (0, .ref x)]) X dX10_init_141 rfl (by decide) (by decide) rfl ?_
  refine A_goto (tgt := 119) X dX10_init_144 (by decide) ?_
  refine A_iload_n X dX10_init_119 0 rfl ?_
  refine A_aload_n X dX10_init_120 3 rfl ?_
  refine A_get X dX10_init_121 kcl_X10 6 (by decide) kw_657 ((n29 _ (by omega)).trans ((n28 _ (by omega)).trans ((n27 _ (by omega)).trans ((n26 _ (by omega) (by omega) (by omega) (by omega) (by omega) (by omega) (by omega) (by omega) (by omega) (by omega) (by omega) (by omega) (by omega)).trans k25)))) rfl ?_
  refine A_alen (t := 5) (v := 2) X dX10_init_124 k29 rfl (by decide) ?_
  refine A_icmp_ge_f (tgt := 147) X dX10_init_125 (by decide) (by decide) ?_
  refine A_aload_n X dX10_init_128 3 rfl ?_
  refine A_get X dX10_init_129 kcl_X10 6 (by decide) kw_657 ((n29 _ (by omega)).trans ((n28 _ (by omega)).trans ((n27 _ (by omega)).trans ((n26 _ (by omega) (by omega) (by omega) (by omega) (by omega) (by omega) (by omega) (by omega) (by omega) (by omega) (by omega) (by omega) (by omega)).trans k25)))) rfl ?_
  refine A_iload_n X dX10_init_132 0 rfl ?_
  refine A_new (z := (x + 156)) (fs := [.null, .null, .null, .null, .int 0, .int 0, .int 0]) X dX10_init_133 kcl_X2 kw_51 kw_52 kw_3 (fun j hj => by match j, hj with | 0, _ => rfl | 1, _ => rfl | 2, _ => rfl | 3, _ => rfl | 4, _ => rfl | 5, _ => rfl | 6, _ => rfl | j + 7, hj => exact absurd hj (by omega)) (Nat.le_of_ble_eq_true rfl) (Nat.le_of_ble_eq_true rfl) (fun hp30 (k30 : hp30 (x + 156) = some (.inr (2, [.null, .null, .null, .null, .int 0, .int 0, .int 0]))) n30 => ?_)
  refine A_dup X dX10_init_136 rfl ?_
  refine A_c (k' := 168) (n' := 13016) rfl rfl (A_runIN (rest := [.ref (x + 156), .int 1, .ref (x + 124)]) X dX10_init_137 (c_X2_init (b := (x + 156)) k30) kY_X2_init kw_53 ⟨(Nat.le_of_ble_eq_true rfl), (Nat.le_of_ble_eq_true rfl), (Nat.le_of_ble_eq_true rfl), (Nat.le_of_ble_eq_true rfl)⟩ rfl (Nat.le_of_ble_eq_true rfl)) (fun v9 hp31 al9 hP => ?_)
  obtain ⟨rfl, k31_0, k31_1, k31_2, k31_3, k31_4, k31_5, k31_6, k31_7, k31_8, k31_9, k31_10, k31_11, k31_12, n31, rfl⟩ := hP
  replace k31_0 : hp31 (x + 156) = some (.inr (2, [.ref (x + 157), .ref (x + 160), .ref (x + 163), .ref (x + 166), .int 0, .int 1, .int 0])) := k31_0
  replace k31_1 : hp31 (x + 157) = some (.inr (0, [.ref (x + 158), .ref (x + 159), .int 0])) := k31_1
  replace k31_2 : hp31 (x + 158) = some (.inl (kC E 0, 6, .inl (fun _ => 0))) := k31_2
  replace k31_3 : hp31 (x + 159) = some (.inl (kC E 0, 72, .inl (fun _ => 0))) := k31_3
  replace k31_4 : hp31 (x + 160) = some (.inr (7, [.ref (x + 161), .ref (x + 162), .int 0])) := k31_4
  replace k31_5 : hp31 (x + 161) = some (.inl (kC E 0, 6, .inl (fun _ => 0))) := k31_5
  replace k31_6 : hp31 (x + 162) = some (.inl (kC E 0, 24, .inl (fun _ => 0))) := k31_6
  replace k31_7 : hp31 (x + 163) = some (.inr (4, [.ref (x + 164), .ref (x + 165), .int 0])) := k31_7
  replace k31_8 : hp31 (x + 164) = some (.inl (kC E 0, 300, .inl (fun _ => 0))) := k31_8
  replace k31_9 : hp31 (x + 165) = some (.inl (kC E 0, 432, .inl (fun _ => 0))) := k31_9
  replace k31_10 : hp31 (x + 166) = some (.inr (6, [.ref (x + 167), .ref (x + 168), .int 0])) := k31_10
  replace k31_11 : hp31 (x + 167) = some (.inl (kC E 0, 36, .inl (fun _ => 0))) := k31_11
  replace k31_12 : hp31 (x + 168) = some (.inl (kC E 0, 36, .inl (fun _ => 0))) := k31_12
  refine A_st (st' := [.ref (x + 156), .int 1, .ref (x + 124)]) rfl ?_
  refine A_aast X dX10_init_140 ((n31 _ (by omega)).trans ((n30 _ (by omega)).trans k29)) k31_0 rfl rfl (by decide) (fun hp32 (k32 : hp32 (x + 124) = some (.inl (kC E 5, 2, .inr (.inr (.inr (.inr (va_up (va_up (fun _ => none) (Int32.toNatClampNeg 0) (some (x + 143))) (Int32.toNatClampNeg 1) (some (x + 156))))))))) n32 => ?_)
  refine A_iinc (j := 0) (v := 2) (L' := [(3, .int 2), (2, .ref (x + 128)), (1, .ref (x + 126)), (0, .ref x)]) X dX10_init_141 rfl (by decide) (by decide) rfl ?_
  refine A_goto (tgt := 119) X dX10_init_144 (by decide) ?_
  refine A_iload_n X dX10_init_119 0 rfl ?_
  refine A_aload_n X dX10_init_120 3 rfl ?_
  refine A_get X dX10_init_121 kcl_X10 6 (by decide) kw_657 ((n32 _ (by omega)).trans ((n31 _ (by omega)).trans ((n30 _ (by omega)).trans ((n29 _ (by omega)).trans ((n28 _ (by omega)).trans ((n27 _ (by omega)).trans ((n26 _ (by omega) (by omega) (by omega) (by omega) (by omega) (by omega) (by omega) (by omega) (by omega) (by omega) (by omega) (by omega) (by omega)).trans k25))))))) rfl ?_
  refine A_alen (t := 5) (v := 2) X dX10_init_124 k32 rfl (by decide) ?_
  refine A_icmp_ge_t (tgt := 147) X dX10_init_125 (by decide) (by decide) ?_
  exact A_vret X dX10_init_147 hr ⟨rfl, ((n32 _ (by omega)).trans ((n31 _ (by omega)).trans ((n30 _ (by omega)).trans ((n29 _ (by omega)).trans ((n28 _ (by omega)).trans ((n27 _ (by omega)).trans ((n26 _ (by omega) (by omega) (by omega) (by omega) (by omega) (by omega) (by omega) (by omega) (by omega) (by omega) (by omega) (by omega) (by omega)).trans k25))))))), ((n32 _ (by omega)).trans ((n31 _ (by omega)).trans ((n30 _ (by omega)).trans ((n29 _ (by omega)).trans ((n28 _ (by omega)).trans ((n27 _ (by omega)).trans ((n26 _ (by omega) (by omega) (by omega) (by omega) (by omega) (by omega) (by omega) (by omega) (by omega) (by omega) (by omega) (by omega) (by omega)).trans ((n25 _ (by omega)).trans ((n24 _ (by omega)).trans ((n23 _ (by omega)).trans ((n22 _ (by omega) (by omega) (by omega) (by omega) (by omega) (by omega) (by omega) (by omega) (by omega) (by omega) (by omega) (by omega) (by omega) (by omega) (by omega)).trans ((n21 _ (by omega) (by omega)).trans ((n20 _ (by omega)).trans ((n19 _ (by omega)).trans ((n18 _ (by omega)).trans ((n17 _ (by omega)).trans ((n16 _ (by omega)).trans ((n15 _ (by omega)).trans ((n14 _ (by omega)).trans ((n13 _ (by omega)).trans ((n12 _ (by omega)).trans ((n11 _ (by omega)).trans ((n10 _ (by omega)).trans ((n9 _ (by omega)).trans ((n8 _ (by omega)).trans ((n7 _ (by omega)).trans ((n6 _ (by omega)).trans ((n5 _ (by omega)).trans ((n4 _ (by omega)).trans ((n3 _ (by omega)).trans k2_0)))))))))))))))))))))))))))))), ((n32 _ (by omega)).trans ((n31 _ (by omega)).trans ((n30 _ (by omega)).trans ((n29 _ (by omega)).trans ((n28 _ (by omega)).trans ((n27 _ (by omega)).trans ((n26 _ (by omega) (by omega) (by omega) (by omega) (by omega) (by omega) (by omega) (by omega) (by omega) (by omega) (by omega) (by omega) (by omega)).trans ((n25 _ (by omega)).trans ((n24 _ (by omega)).trans ((n23 _ (by omega)).trans ((n22 _ (by omega) (by omega) (by omega) (by omega) (by omega) (by omega) (by omega) (by omega) (by omega) (by omega) (by omega) (by omega) (by omega) (by omega) (by omega)).trans ((n21 _ (by omega) (by omega)).trans ((n20 _ (by omega)).trans ((n19 _ (by omega)).trans ((n18 _ (by omega)).trans ((n17 _ (by omega)).trans ((n16 _ (by omega)).trans ((n15 _ (by omega)).trans ((n14 _ (by omega)).trans ((n13 _ (by omega)).trans ((n12 _ (by omega)).trans ((n11 _ (by omega)).trans ((n10 _ (by omega)).trans ((n9 _ (by omega)).trans ((n8 _ (by omega)).trans ((n7 _ (by omega)).trans ((n6 _ (by omega)).trans ((n5 _ (by omega)).trans ((n4 _ (by omega)).trans ((n3 _ (by omega)).trans k2_1)))))))))))))))))))))))))))))), ((n32 _ (by omega)).trans ((n31 _ (by omega)).trans ((n30 _ (by omega)).trans ((n29 _ (by omega)).trans ((n28 _ (by omega)).trans ((n27 _ (by omega)).trans k26_0)))))), ((n32 _ (by omega)).trans ((n31 _ (by omega)).trans ((n30 _ (by omega)).trans ((n29 _ (by omega)).trans ((n28 _ (by omega)).trans ((n27 _ (by omega)).trans k26_1)))))), ((n32 _ (by omega)).trans ((n31 _ (by omega)).trans ((n30 _ (by omega)).trans ((n29 _ (by omega)).trans ((n28 _ (by omega)).trans ((n27 _ (by omega)).trans k26_2)))))), ((n32 _ (by omega)).trans ((n31 _ (by omega)).trans ((n30 _ (by omega)).trans ((n29 _ (by omega)).trans ((n28 _ (by omega)).trans ((n27 _ (by omega)).trans k26_3)))))), ((n32 _ (by omega)).trans ((n31 _ (by omega)).trans ((n30 _ (by omega)).trans ((n29 _ (by omega)).trans ((n28 _ (by omega)).trans ((n27 _ (by omega)).trans k26_4)))))), ((n32 _ (by omega)).trans ((n31 _ (by omega)).trans ((n30 _ (by omega)).trans ((n29 _ (by omega)).trans ((n28 _ (by omega)).trans ((n27 _ (by omega)).trans k26_5)))))), ((n32 _ (by omega)).trans ((n31 _ (by omega)).trans ((n30 _ (by omega)).trans ((n29 _ (by omega)).trans ((n28 _ (by omega)).trans ((n27 _ (by omega)).trans k26_6)))))), ((n32 _ (by omega)).trans ((n31 _ (by omega)).trans ((n30 _ (by omega)).trans ((n29 _ (by omega)).trans ((n28 _ (by omega)).trans ((n27 _ (by omega)).trans k26_7)))))), ((n32 _ (by omega)).trans ((n31 _ (by omega)).trans ((n30 _ (by omega)).trans ((n29 _ (by omega)).trans ((n28 _ (by omega)).trans ((n27 _ (by omega)).trans k26_8)))))), ((n32 _ (by omega)).trans ((n31 _ (by omega)).trans ((n30 _ (by omega)).trans ((n29 _ (by omega)).trans ((n28 _ (by omega)).trans ((n27 _ (by omega)).trans k26_9)))))), ((n32 _ (by omega)).trans ((n31 _ (by omega)).trans ((n30 _ (by omega)).trans ((n29 _ (by omega)).trans ((n28 _ (by omega)).trans ((n27 _ (by omega)).trans k26_10)))))), ((n32 _ (by omega)).trans ((n31 _ (by omega)).trans ((n30 _ (by omega)).trans ((n29 _ (by omega)).trans ((n28 _ (by omega)).trans ((n27 _ (by omega)).trans k26_11)))))), ((n32 _ (by omega)).trans ((n31 _ (by omega)).trans ((n30 _ (by omega)).trans ((n29 _ (by omega)).trans ((n28 _ (by omega)).trans ((n27 _ (by omega)).trans k26_12)))))), ((n32 _ (by omega)).trans ((n31 _ (by omega)).trans ((n30 _ (by omega)).trans ((n29 _ (by omega)).trans ((n28 _ (by omega)).trans ((n27 _ (by omega)).trans ((n26 _ (by omega) (by omega) (by omega) (by omega) (by omega) (by omega) (by omega) (by omega) (by omega) (by omega) (by omega) (by omega) (by omega)).trans ((n25 _ (by omega)).trans ((n24 _ (by omega)).trans ((n23 _ (by omega)).trans ((n22 _ (by omega) (by omega) (by omega) (by omega) (by omega) (by omega) (by omega) (by omega) (by omega) (by omega) (by omega) (by omega) (by omega) (by omega) (by omega)).trans ((n21 _ (by omega) (by omega)).trans ((n20 _ (by omega)).trans ((n19 _ (by omega)).trans ((n18 _ (by omega)).trans ((n17 _ (by omega)).trans ((n16 _ (by omega)).trans ((n15 _ (by omega)).trans ((n14 _ (by omega)).trans ((n13 _ (by omega)).trans ((n12 _ (by omega)).trans ((n11 _ (by omega)).trans ((n10 _ (by omega)).trans ((n9 _ (by omega)).trans k8_0)))))))))))))))))))))))), ((n32 _ (by omega)).trans ((n31 _ (by omega)).trans ((n30 _ (by omega)).trans ((n29 _ (by omega)).trans ((n28 _ (by omega)).trans ((n27 _ (by omega)).trans ((n26 _ (by omega) (by omega) (by omega) (by omega) (by omega) (by omega) (by omega) (by omega) (by omega) (by omega) (by omega) (by omega) (by omega)).trans ((n25 _ (by omega)).trans ((n24 _ (by omega)).trans ((n23 _ (by omega)).trans ((n22 _ (by omega) (by omega) (by omega) (by omega) (by omega) (by omega) (by omega) (by omega) (by omega) (by omega) (by omega) (by omega) (by omega) (by omega) (by omega)).trans ((n21 _ (by omega) (by omega)).trans ((n20 _ (by omega)).trans ((n19 _ (by omega)).trans ((n18 _ (by omega)).trans ((n17 _ (by omega)).trans ((n16 _ (by omega)).trans ((n15 _ (by omega)).trans ((n14 _ (by omega)).trans ((n13 _ (by omega)).trans ((n12 _ (by omega)).trans ((n11 _ (by omega)).trans ((n10 _ (by omega)).trans ((n9 _ (by omega)).trans k8_1)))))))))))))))))))))))), ((n32 _ (by omega)).trans ((n31 _ (by omega)).trans ((n30 _ (by omega)).trans ((n29 _ (by omega)).trans ((n28 _ (by omega)).trans ((n27 _ (by omega)).trans ((n26 _ (by omega) (by omega) (by omega) (by omega) (by omega) (by omega) (by omega) (by omega) (by omega) (by omega) (by omega) (by omega) (by omega)).trans ((n25 _ (by omega)).trans ((n24 _ (by omega)).trans ((n23 _ (by omega)).trans ((n22 _ (by omega) (by omega) (by omega) (by omega) (by omega) (by omega) (by omega) (by omega) (by omega) (by omega) (by omega) (by omega) (by omega) (by omega) (by omega)).trans ((n21 _ (by omega) (by omega)).trans ((n20 _ (by omega)).trans ((n19 _ (by omega)).trans ((n18 _ (by omega)).trans ((n17 _ (by omega)).trans ((n16 _ (by omega)).trans ((n15 _ (by omega)).trans ((n14 _ (by omega)).trans ((n13 _ (by omega)).trans ((n12 _ (by omega)).trans k11_0))))))))))))))))))))), ((n32 _ (by omega)).trans ((n31 _ (by omega)).trans ((n30 _ (by omega)).trans ((n29 _ (by omega)).trans ((n28 _ (by omega)).trans ((n27 _ (by omega)).trans ((n26 _ (by omega) (by omega) (by omega) (by omega) (by omega) (by omega) (by omega) (by omega) (by omega) (by omega) (by omega) (by omega) (by omega)).trans ((n25 _ (by omega)).trans ((n24 _ (by omega)).trans ((n23 _ (by omega)).trans ((n22 _ (by omega) (by omega) (by omega) (by omega) (by omega) (by omega) (by omega) (by omega) (by omega) (by omega) (by omega) (by omega) (by omega) (by omega) (by omega)).trans ((n21 _ (by omega) (by omega)).trans ((n20 _ (by omega)).trans ((n19 _ (by omega)).trans ((n18 _ (by omega)).trans ((n17 _ (by omega)).trans ((n16 _ (by omega)).trans ((n15 _ (by omega)).trans ((n14 _ (by omega)).trans ((n13 _ (by omega)).trans ((n12 _ (by omega)).trans k11_1))))))))))))))))))))), ((n32 _ (by omega)).trans ((n31 _ (by omega)).trans ((n30 _ (by omega)).trans ((n29 _ (by omega)).trans ((n28 _ (by omega)).trans ((n27 _ (by omega)).trans ((n26 _ (by omega) (by omega) (by omega) (by omega) (by omega) (by omega) (by omega) (by omega) (by omega) (by omega) (by omega) (by omega) (by omega)).trans ((n25 _ (by omega)).trans ((n24 _ (by omega)).trans ((n23 _ (by omega)).trans ((n22 _ (by omega) (by omega) (by omega) (by omega) (by omega) (by omega) (by omega) (by omega) (by omega) (by omega) (by omega) (by omega) (by omega) (by omega) (by omega)).trans ((n21 _ (by omega) (by omega)).trans ((n20 _ (by omega)).trans ((n19 _ (by omega)).trans ((n18 _ (by omega)).trans ((n17 _ (by omega)).trans ((n16 _ (by omega)).trans ((n15 _ (by omega)).trans ((n14 _ (by omega)).trans ((n13 _ (by omega)).trans ((n12 _ (by omega)).trans k11_2))))))))))))))))))))), ((n32 _ (by omega)).trans ((n31 _ (by omega)).trans ((n30 _ (by omega)).trans ((n29 _ (by omega)).trans ((n28 _ (by omega)).trans ((n27 _ (by omega)).trans ((n26 _ (by omega) (by omega) (by omega) (by omega) (by omega) (by omega) (by omega) (by omega) (by omega) (by omega) (by omega) (by omega) (by omega)).trans ((n25 _ (by omega)).trans ((n24 _ (by omega)).trans ((n23 _ (by omega)).trans ((n22 _ (by omega) (by omega) (by omega) (by omega) (by omega) (by omega) (by omega) (by omega) (by omega) (by omega) (by omega) (by omega) (by omega) (by omega) (by omega)).trans ((n21 _ (by omega) (by omega)).trans ((n20 _ (by omega)).trans ((n19 _ (by omega)).trans ((n18 _ (by omega)).trans ((n17 _ (by omega)).trans ((n16 _ (by omega)).trans ((n15 _ (by omega)).trans ((n14 _ (by omega)).trans ((n13 _ (by omega)).trans ((n12 _ (by omega)).trans k11_3))))))))))))))))))))), ((n32 _ (by omega)).trans ((n31 _ (by omega)).trans ((n30 _ (by omega)).trans ((n29 _ (by omega)).trans ((n28 _ (by omega)).trans ((n27 _ (by omega)).trans ((n26 _ (by omega) (by omega) (by omega) (by omega) (by omega) (by omega) (by omega) (by omega) (by omega) (by omega) (by omega) (by omega) (by omega)).trans ((n25 _ (by omega)).trans ((n24 _ (by omega)).trans ((n23 _ (by omega)).trans ((n22 _ (by omega) (by omega) (by omega) (by omega) (by omega) (by omega) (by omega) (by omega) (by omega) (by omega) (by omega) (by omega) (by omega) (by omega) (by omega)).trans ((n21 _ (by omega) (by omega)).trans ((n20 _ (by omega)).trans ((n19 _ (by omega)).trans ((n18 _ (by omega)).trans ((n17 _ (by omega)).trans ((n16 _ (by omega)).trans ((n15 _ (by omega)).trans ((n14 _ (by omega)).trans ((n13 _ (by omega)).trans ((n12 _ (by omega)).trans k11_4))))))))))))))))))))), ((n32 _ (by omega)).trans ((n31 _ (by omega)).trans ((n30 _ (by omega)).trans ((n29 _ (by omega)).trans ((n28 _ (by omega)).trans ((n27 _ (by omega)).trans ((n26 _ (by omega) (by omega) (by omega) (by omega) (by omega) (by omega) (by omega) (by omega) (by omega) (by omega) (by omega) (by omega) (by omega)).trans ((n25 _ (by omega)).trans ((n24 _ (by omega)).trans ((n23 _ (by omega)).trans ((n22 _ (by omega) (by omega) (by omega) (by omega) (by omega) (by omega) (by omega) (by omega) (by omega) (by omega) (by omega) (by omega) (by omega) (by omega) (by omega)).trans ((n21 _ (by omega) (by omega)).trans ((n20 _ (by omega)).trans ((n19 _ (by omega)).trans ((n18 _ (by omega)).trans ((n17 _ (by omega)).trans ((n16 _ (by omega)).trans ((n15 _ (by omega)).trans ((n14 _ (by omega)).trans ((n13 _ (by omega)).trans ((n12 _ (by omega)).trans k11_5))))))))))))))))))))), ((n32 _ (by omega)).trans ((n31 _ (by omega)).trans ((n30 _ (by omega)).trans ((n29 _ (by omega)).trans ((n28 _ (by omega)).trans ((n27 _ (by omega)).trans ((n26 _ (by omega) (by omega) (by omega) (by omega) (by omega) (by omega) (by omega) (by omega) (by omega) (by omega) (by omega) (by omega) (by omega)).trans ((n25 _ (by omega)).trans ((n24 _ (by omega)).trans ((n23 _ (by omega)).trans ((n22 _ (by omega) (by omega) (by omega) (by omega) (by omega) (by omega) (by omega) (by omega) (by omega) (by omega) (by omega) (by omega) (by omega) (by omega) (by omega)).trans ((n21 _ (by omega) (by omega)).trans ((n20 _ (by omega)).trans ((n19 _ (by omega)).trans ((n18 _ (by omega)).trans ((n17 _ (by omega)).trans ((n16 _ (by omega)).trans ((n15 _ (by omega)).trans ((n14 _ (by omega)).trans ((n13 _ (by omega)).trans ((n12 _ (by omega)).trans k11_6))))))))))))))))))))), ((n32 _ (by omega)).trans ((n31 _ (by omega)).trans ((n30 _ (by omega)).trans ((n29 _ (by omega)).trans ((n28 _ (by omega)).trans ((n27 _ (by omega)).trans ((n26 _ (by omega) (by omega) (by omega) (by omega) (by omega) (by omega) (by omega) (by omega) (by omega) (by omega) (by omega) (by omega) (by omega)).trans ((n25 _ (by omega)).trans ((n24 _ (by omega)).trans ((n23 _ (by omega)).trans ((n22 _ (by omega) (by omega) (by omega) (by omega) (by omega) (by omega) (by omega) (by omega) (by omega) (by omega) (by omega) (by omega) (by omega) (by omega) (by omega)).trans ((n21 _ (by omega) (by omega)).trans ((n20 _ (by omega)).trans ((n19 _ (by omega)).trans ((n18 _ (by omega)).trans ((n17 _ (by omega)).trans ((n16 _ (by omega)).trans ((n15 _ (by omega)).trans ((n14 _ (by omega)).trans ((n13 _ (by omega)).trans ((n12 _ (by omega)).trans k11_7))))))))))))))))))))), ((n32 _ (by omega)).trans ((n31 _ (by omega)).trans ((n30 _ (by omega)).trans ((n29 _ (by omega)).trans ((n28 _ (by omega)).trans ((n27 _ (by omega)).trans ((n26 _ (by omega) (by omega) (by omega) (by omega) (by omega) (by omega) (by omega) (by omega) (by omega) (by omega) (by omega) (by omega) (by omega)).trans ((n25 _ (by omega)).trans ((n24 _ (by omega)).trans ((n23 _ (by omega)).trans ((n22 _ (by omega) (by omega) (by omega) (by omega) (by omega) (by omega) (by omega) (by omega) (by omega) (by omega) (by omega) (by omega) (by omega) (by omega) (by omega)).trans ((n21 _ (by omega) (by omega)).trans ((n20 _ (by omega)).trans ((n19 _ (by omega)).trans ((n18 _ (by omega)).trans ((n17 _ (by omega)).trans ((n16 _ (by omega)).trans ((n15 _ (by omega)).trans ((n14 _ (by omega)).trans ((n13 _ (by omega)).trans ((n12 _ (by omega)).trans k11_8))))))))))))))))))))), ((n32 _ (by omega)).trans ((n31 _ (by omega)).trans ((n30 _ (by omega)).trans ((n29 _ (by omega)).trans ((n28 _ (by omega)).trans ((n27 _ (by omega)).trans ((n26 _ (by omega) (by omega) (by omega) (by omega) (by omega) (by omega) (by omega) (by omega) (by omega) (by omega) (by omega) (by omega) (by omega)).trans ((n25 _ (by omega)).trans ((n24 _ (by omega)).trans ((n23 _ (by omega)).trans ((n22 _ (by omega) (by omega) (by omega) (by omega) (by omega) (by omega) (by omega) (by omega) (by omega) (by omega) (by omega) (by omega) (by omega) (by omega) (by omega)).trans ((n21 _ (by omega) (by omega)).trans ((n20 _ (by omega)).trans ((n19 _ (by omega)).trans ((n18 _ (by omega)).trans ((n17 _ (by omega)).trans ((n16 _ (by omega)).trans ((n15 _ (by omega)).trans ((n14 _ (by omega)).trans ((n13 _ (by omega)).trans ((n12 _ (by omega)).trans k11_9))))))))))))))))))))), ((n32 _ (by omega)).trans ((n31 _ (by omega)).trans ((n30 _ (by omega)).trans ((n29 _ (by omega)).trans ((n28 _ (by omega)).trans ((n27 _ (by omega)).trans ((n26 _ (by omega) (by omega) (by omega) (by omega) (by omega) (by omega) (by omega) (by omega) (by omega) (by omega) (by omega) (by omega) (by omega)).trans ((n25 _ (by omega)).trans ((n24 _ (by omega)).trans ((n23 _ (by omega)).trans ((n22 _ (by omega) (by omega) (by omega) (by omega) (by omega) (by omega) (by omega) (by omega) (by omega) (by omega) (by omega) (by omega) (by omega) (by omega) (by omega)).trans ((n21 _ (by omega) (by omega)).trans ((n20 _ (by omega)).trans ((n19 _ (by omega)).trans ((n18 _ (by omega)).trans ((n17 _ (by omega)).trans ((n16 _ (by omega)).trans ((n15 _ (by omega)).trans ((n14 _ (by omega)).trans ((n13 _ (by omega)).trans ((n12 _ (by omega)).trans k11_10))))))))))))))))))))), ((n32 _ (by omega)).trans ((n31 _ (by omega)).trans ((n30 _ (by omega)).trans ((n29 _ (by omega)).trans ((n28 _ (by omega)).trans ((n27 _ (by omega)).trans ((n26 _ (by omega) (by omega) (by omega) (by omega) (by omega) (by omega) (by omega) (by omega) (by omega) (by omega) (by omega) (by omega) (by omega)).trans ((n25 _ (by omega)).trans ((n24 _ (by omega)).trans ((n23 _ (by omega)).trans ((n22 _ (by omega) (by omega) (by omega) (by omega) (by omega) (by omega) (by omega) (by omega) (by omega) (by omega) (by omega) (by omega) (by omega) (by omega) (by omega)).trans ((n21 _ (by omega) (by omega)).trans ((n20 _ (by omega)).trans ((n19 _ (by omega)).trans ((n18 _ (by omega)).trans ((n17 _ (by omega)).trans ((n16 _ (by omega)).trans ((n15 _ (by omega)).trans ((n14 _ (by omega)).trans ((n13 _ (by omega)).trans ((n12 _ (by omega)).trans k11_11))))))))))))))))))))), ((n32 _ (by omega)).trans ((n31 _ (by omega)).trans ((n30 _ (by omega)).trans ((n29 _ (by omega)).trans ((n28 _ (by omega)).trans ((n27 _ (by omega)).trans ((n26 _ (by omega) (by omega) (by omega) (by omega) (by omega) (by omega) (by omega) (by omega) (by omega) (by omega) (by omega) (by omega) (by omega)).trans ((n25 _ (by omega)).trans ((n24 _ (by omega)).trans ((n23 _ (by omega)).trans ((n22 _ (by omega) (by omega) (by omega) (by omega) (by omega) (by omega) (by omega) (by omega) (by omega) (by omega) (by omega) (by omega) (by omega) (by omega) (by omega)).trans ((n21 _ (by omega) (by omega)).trans ((n20 _ (by omega)).trans ((n19 _ (by omega)).trans ((n18 _ (by omega)).trans ((n17 _ (by omega)).trans ((n16 _ (by omega)).trans ((n15 _ (by omega)).trans ((n14 _ (by omega)).trans ((n13 _ (by omega)).trans ((n12 _ (by omega)).trans k11_12))))))))))))))))))))), ((n32 _ (by omega)).trans ((n31 _ (by omega)).trans ((n30 _ (by omega)).trans ((n29 _ (by omega)).trans ((n28 _ (by omega)).trans ((n27 _ (by omega)).trans ((n26 _ (by omega) (by omega) (by omega) (by omega) (by omega) (by omega) (by omega) (by omega) (by omega) (by omega) (by omega) (by omega) (by omega)).trans ((n25 _ (by omega)).trans ((n24 _ (by omega)).trans ((n23 _ (by omega)).trans ((n22 _ (by omega) (by omega) (by omega) (by omega) (by omega) (by omega) (by omega) (by omega) (by omega) (by omega) (by omega) (by omega) (by omega) (by omega) (by omega)).trans ((n21 _ (by omega) (by omega)).trans ((n20 _ (by omega)).trans ((n19 _ (by omega)).trans ((n18 _ (by omega)).trans ((n17 _ (by omega)).trans ((n16 _ (by omega)).trans ((n15 _ (by omega)).trans ((n14 _ (by omega)).trans ((n13 _ (by omega)).trans ((n12 _ (by omega)).trans k11_13))))))))))))))))))))), ((n32 _ (by omega)).trans ((n31 _ (by omega)).trans ((n30 _ (by omega)).trans ((n29 _ (by omega)).trans ((n28 _ (by omega)).trans ((n27 _ (by omega)).trans ((n26 _ (by omega) (by omega) (by omega) (by omega) (by omega) (by omega) (by omega) (by omega) (by omega) (by omega) (by omega) (by omega) (by omega)).trans ((n25 _ (by omega)).trans ((n24 _ (by omega)).trans ((n23 _ (by omega)).trans ((n22 _ (by omega) (by omega) (by omega) (by omega) (by omega) (by omega) (by omega) (by omega) (by omega) (by omega) (by omega) (by omega) (by omega) (by omega) (by omega)).trans ((n21 _ (by omega) (by omega)).trans ((n20 _ (by omega)).trans ((n19 _ (by omega)).trans ((n18 _ (by omega)).trans ((n17 _ (by omega)).trans ((n16 _ (by omega)).trans ((n15 _ (by omega)).trans ((n14 _ (by omega)).trans ((n13 _ (by omega)).trans ((n12 _ (by omega)).trans k11_14))))))))))))))))))))), ((n32 _ (by omega)).trans ((n31 _ (by omega)).trans ((n30 _ (by omega)).trans ((n29 _ (by omega)).trans ((n28 _ (by omega)).trans ((n27 _ (by omega)).trans ((n26 _ (by omega) (by omega) (by omega) (by omega) (by omega) (by omega) (by omega) (by omega) (by omega) (by omega) (by omega) (by omega) (by omega)).trans ((n25 _ (by omega)).trans ((n24 _ (by omega)).trans ((n23 _ (by omega)).trans ((n22 _ (by omega) (by omega) (by omega) (by omega) (by omega) (by omega) (by omega) (by omega) (by omega) (by omega) (by omega) (by omega) (by omega) (by omega) (by omega)).trans ((n21 _ (by omega) (by omega)).trans ((n20 _ (by omega)).trans ((n19 _ (by omega)).trans ((n18 _ (by omega)).trans ((n17 _ (by omega)).trans ((n16 _ (by omega)).trans ((n15 _ (by omega)).trans ((n14 _ (by omega)).trans ((n13 _ (by omega)).trans ((n12 _ (by omega)).trans k11_15))))))))))))))))))))), ((n32 _ (by omega)).trans ((n31 _ (by omega)).trans ((n30 _ (by omega)).trans ((n29 _ (by omega)).trans ((n28 _ (by omega)).trans ((n27 _ (by omega)).trans ((n26 _ (by omega) (by omega) (by omega) (by omega) (by omega) (by omega) (by omega) (by omega) (by omega) (by omega) (by omega) (by omega) (by omega)).trans ((n25 _ (by omega)).trans ((n24 _ (by omega)).trans ((n23 _ (by omega)).trans ((n22 _ (by omega) (by omega) (by omega) (by omega) (by omega) (by omega) (by omega) (by omega) (by omega) (by omega) (by omega) (by omega) (by omega) (by omega) (by omega)).trans ((n21 _ (by omega) (by omega)).trans ((n20 _ (by omega)).trans ((n19 _ (by omega)).trans ((n18 _ (by omega)).trans ((n17 _ (by omega)).trans ((n16 _ (by omega)).trans ((n15 _ (by omega)).trans ((n14 _ (by omega)).trans ((n13 _ (by omega)).trans ((n12 _ (by omega)).trans k11_16))))))))))))))))))))), ((n32 _ (by omega)).trans ((n31 _ (by omega)).trans ((n30 _ (by omega)).trans ((n29 _ (by omega)).trans ((n28 _ (by omega)).trans ((n27 _ (by omega)).trans ((n26 _ (by omega) (by omega) (by omega) (by omega) (by omega) (by omega) (by omega) (by omega) (by omega) (by omega) (by omega) (by omega) (by omega)).trans ((n25 _ (by omega)).trans ((n24 _ (by omega)).trans ((n23 _ (by omega)).trans ((n22 _ (by omega) (by omega) (by omega) (by omega) (by omega) (by omega) (by omega) (by omega) (by omega) (by omega) (by omega) (by omega) (by omega) (by omega) (by omega)).trans ((n21 _ (by omega) (by omega)).trans ((n20 _ (by omega)).trans ((n19 _ (by omega)).trans ((n18 _ (by omega)).trans ((n17 _ (by omega)).trans ((n16 _ (by omega)).trans ((n15 _ (by omega)).trans ((n14 _ (by omega)).trans ((n13 _ (by omega)).trans ((n12 _ (by omega)).trans k11_17))))))))))))))))))))), ((n32 _ (by omega)).trans ((n31 _ (by omega)).trans ((n30 _ (by omega)).trans ((n29 _ (by omega)).trans ((n28 _ (by omega)).trans ((n27 _ (by omega)).trans ((n26 _ (by omega) (by omega) (by omega) (by omega) (by omega) (by omega) (by omega) (by omega) (by omega) (by omega) (by omega) (by omega) (by omega)).trans ((n25 _ (by omega)).trans ((n24 _ (by omega)).trans ((n23 _ (by omega)).trans ((n22 _ (by omega) (by omega) (by omega) (by omega) (by omega) (by omega) (by omega) (by omega) (by omega) (by omega) (by omega) (by omega) (by omega) (by omega) (by omega)).trans ((n21 _ (by omega) (by omega)).trans ((n20 _ (by omega)).trans ((n19 _ (by omega)).trans ((n18 _ (by omega)).trans ((n17 _ (by omega)).trans ((n16 _ (by omega)).trans ((n15 _ (by omega)).trans ((n14 _ (by omega)).trans ((n13 _ (by omega)).trans ((n12 _ (by omega)).trans k11_18))))))))))))))))))))), ((n32 _ (by omega)).trans ((n31 _ (by omega)).trans ((n30 _ (by omega)).trans ((n29 _ (by omega)).trans ((n28 _ (by omega)).trans ((n27 _ (by omega)).trans ((n26 _ (by omega) (by omega) (by omega) (by omega) (by omega) (by omega) (by omega) (by omega) (by omega) (by omega) (by omega) (by omega) (by omega)).trans ((n25 _ (by omega)).trans ((n24 _ (by omega)).trans ((n23 _ (by omega)).trans ((n22 _ (by omega) (by omega) (by omega) (by omega) (by omega) (by omega) (by omega) (by omega) (by omega) (by omega) (by omega) (by omega) (by omega) (by omega) (by omega)).trans ((n21 _ (by omega) (by omega)).trans ((n20 _ (by omega)).trans ((n19 _ (by omega)).trans ((n18 _ (by omega)).trans ((n17 _ (by omega)).trans ((n16 _ (by omega)).trans ((n15 _ (by omega)).trans ((n14 _ (by omega)).trans ((n13 _ (by omega)).trans ((n12 _ (by omega)).trans k11_19))))))))))))))))))))), ((n32 _ (by omega)).trans ((n31 _ (by omega)).trans ((n30 _ (by omega)).trans ((n29 _ (by omega)).trans ((n28 _ (by omega)).trans ((n27 _ (by omega)).trans ((n26 _ (by omega) (by omega) (by omega) (by omega) (by omega) (by omega) (by omega) (by omega) (by omega) (by omega) (by omega) (by omega) (by omega)).trans ((n25 _ (by omega)).trans ((n24 _ (by omega)).trans ((n23 _ (by omega)).trans ((n22 _ (by omega) (by omega) (by omega) (by omega) (by omega) (by omega) (by omega) (by omega) (by omega) (by omega) (by omega) (by omega) (by omega) (by omega) (by omega)).trans ((n21 _ (by omega) (by omega)).trans ((n20 _ (by omega)).trans ((n19 _ (by omega)).trans ((n18 _ (by omega)).trans ((n17 _ (by omega)).trans ((n16 _ (by omega)).trans ((n15 _ (by omega)).trans ((n14 _ (by omega)).trans ((n13 _ (by omega)).trans ((n12 _ (by omega)).trans k11_20))))))))))))))))))))), ((n32 _ (by omega)).trans ((n31 _ (by omega)).trans ((n30 _ (by omega)).trans ((n29 _ (by omega)).trans ((n28 _ (by omega)).trans ((n27 _ (by omega)).trans ((n26 _ (by omega) (by omega) (by omega) (by omega) (by omega) (by omega) (by omega) (by omega) (by omega) (by omega) (by omega) (by omega) (by omega)).trans ((n25 _ (by omega)).trans ((n24 _ (by omega)).trans ((n23 _ (by omega)).trans ((n22 _ (by omega) (by omega) (by omega) (by omega) (by omega) (by omega) (by omega) (by omega) (by omega) (by omega) (by omega) (by omega) (by omega) (by omega) (by omega)).trans ((n21 _ (by omega) (by omega)).trans ((n20 _ (by omega)).trans ((n19 _ (by omega)).trans ((n18 _ (by omega)).trans ((n17 _ (by omega)).trans ((n16 _ (by omega)).trans ((n15 _ (by omega)).trans ((n14 _ (by omega)).trans ((n13 _ (by omega)).trans ((n12 _ (by omega)).trans k11_21))))))))))))))))))))), ((n32 _ (by omega)).trans ((n31 _ (by omega)).trans ((n30 _ (by omega)).trans ((n29 _ (by omega)).trans ((n28 _ (by omega)).trans ((n27 _ (by omega)).trans ((n26 _ (by omega) (by omega) (by omega) (by omega) (by omega) (by omega) (by omega) (by omega) (by omega) (by omega) (by omega) (by omega) (by omega)).trans ((n25 _ (by omega)).trans ((n24 _ (by omega)).trans ((n23 _ (by omega)).trans ((n22 _ (by omega) (by omega) (by omega) (by omega) (by omega) (by omega) (by omega) (by omega) (by omega) (by omega) (by omega) (by omega) (by omega) (by omega) (by omega)).trans ((n21 _ (by omega) (by omega)).trans ((n20 _ (by omega)).trans ((n19 _ (by omega)).trans ((n18 _ (by omega)).trans ((n17 _ (by omega)).trans ((n16 _ (by omega)).trans ((n15 _ (by omega)).trans ((n14 _ (by omega)).trans ((n13 _ (by omega)).trans ((n12 _ (by omega)).trans k11_22))))))))))))))))))))), ((n32 _ (by omega)).trans ((n31 _ (by omega)).trans ((n30 _ (by omega)).trans ((n29 _ (by omega)).trans ((n28 _ (by omega)).trans ((n27 _ (by omega)).trans ((n26 _ (by omega) (by omega) (by omega) (by omega) (by omega) (by omega) (by omega) (by omega) (by omega) (by omega) (by omega) (by omega) (by omega)).trans ((n25 _ (by omega)).trans ((n24 _ (by omega)).trans ((n23 _ (by omega)).trans ((n22 _ (by omega) (by omega) (by omega) (by omega) (by omega) (by omega) (by omega) (by omega) (by omega) (by omega) (by omega) (by omega) (by omega) (by omega) (by omega)).trans ((n21 _ (by omega) (by omega)).trans ((n20 _ (by omega)).trans ((n19 _ (by omega)).trans ((n18 _ (by omega)).trans ((n17 _ (by omega)).trans ((n16 _ (by omega)).trans ((n15 _ (by omega)).trans ((n14 _ (by omega)).trans ((n13 _ (by omega)).trans ((n12 _ (by omega)).trans k11_23))))))))))))))))))))), ((n32 _ (by omega)).trans ((n31 _ (by omega)).trans ((n30 _ (by omega)).trans ((n29 _ (by omega)).trans ((n28 _ (by omega)).trans ((n27 _ (by omega)).trans ((n26 _ (by omega) (by omega) (by omega) (by omega) (by omega) (by omega) (by omega) (by omega) (by omega) (by omega) (by omega) (by omega) (by omega)).trans ((n25 _ (by omega)).trans ((n24 _ (by omega)).trans ((n23 _ (by omega)).trans ((n22 _ (by omega) (by omega) (by omega) (by omega) (by omega) (by omega) (by omega) (by omega) (by omega) (by omega) (by omega) (by omega) (by omega) (by omega) (by omega)).trans ((n21 _ (by omega) (by omega)).trans ((n20 _ (by omega)).trans ((n19 _ (by omega)).trans ((n18 _ (by omega)).trans ((n17 _ (by omega)).trans ((n16 _ (by omega)).trans ((n15 _ (by omega)).trans ((n14 _ (by omega)).trans ((n13 _ (by omega)).trans ((n12 _ (by omega)).trans k11_24))))))))))))))))))))), ((n32 _ (by omega)).trans ((n31 _ (by omega)).trans ((n30 _ (by omega)).trans ((n29 _ (by omega)).trans ((n28 _ (by omega)).trans ((n27 _ (by omega)).trans ((n26 _ (by omega) (by omega) (by omega) (by omega) (by omega) (by omega) (by omega) (by omega) (by omega) (by omega) (by omega) (by omega) (by omega)).trans ((n25 _ (by omega)).trans ((n24 _ (by omega)).trans ((n23 _ (by omega)).trans ((n22 _ (by omega) (by omega) (by omega) (by omega) (by omega) (by omega) (by omega) (by omega) (by omega) (by omega) (by omega) (by omega) (by omega) (by omega) (by omega)).trans ((n21 _ (by omega) (by omega)).trans ((n20 _ (by omega)).trans ((n19 _ (by omega)).trans ((n18 _ (by omega)).trans ((n17 _ (by omega)).trans ((n16 _ (by omega)).trans ((n15 _ (by omega)).trans ((n14 _ (by omega)).trans ((n13 _ (by omega)).trans ((n12 _ (by omega)).trans k11_25))))))))))))))))))))), ((n32 _ (by omega)).trans ((n31 _ (by omega)).trans ((n30 _ (by omega)).trans ((n29 _ (by omega)).trans ((n28 _ (by omega)).trans ((n27 _ (by omega)).trans ((n26 _ (by omega) (by omega) (by omega) (by omega) (by omega) (by omega) (by omega) (by omega) (by omega) (by omega) (by omega) (by omega) (by omega)).trans ((n25 _ (by omega)).trans ((n24 _ (by omega)).trans ((n23 _ (by omega)).trans ((n22 _ (by omega) (by omega) (by omega) (by omega) (by omega) (by omega) (by omega) (by omega) (by omega) (by omega) (by omega) (by omega) (by omega) (by omega) (by omega)).trans ((n21 _ (by omega) (by omega)).trans ((n20 _ (by omega)).trans ((n19 _ (by omega)).trans ((n18 _ (by omega)).trans ((n17 _ (by omega)).trans ((n16 _ (by omega)).trans ((n15 _ (by omega)).trans ((n14 _ (by omega)).trans ((n13 _ (by omega)).trans ((n12 _ (by omega)).trans k11_26))))))))))))))))))))), ((n32 _ (by omega)).trans ((n31 _ (by omega)).trans ((n30 _ (by omega)).trans ((n29 _ (by omega)).trans ((n28 _ (by omega)).trans ((n27 _ (by omega)).trans ((n26 _ (by omega) (by omega) (by omega) (by omega) (by omega) (by omega) (by omega) (by omega) (by omega) (by omega) (by omega) (by omega) (by omega)).trans ((n25 _ (by omega)).trans ((n24 _ (by omega)).trans ((n23 _ (by omega)).trans ((n22 _ (by omega) (by omega) (by omega) (by omega) (by omega) (by omega) (by omega) (by omega) (by omega) (by omega) (by omega) (by omega) (by omega) (by omega) (by omega)).trans ((n21 _ (by omega) (by omega)).trans ((n20 _ (by omega)).trans ((n19 _ (by omega)).trans ((n18 _ (by omega)).trans ((n17 _ (by omega)).trans ((n16 _ (by omega)).trans ((n15 _ (by omega)).trans ((n14 _ (by omega)).trans ((n13 _ (by omega)).trans ((n12 _ (by omega)).trans k11_27))))))))))))))))))))), ((n32 _ (by omega)).trans ((n31 _ (by omega)).trans ((n30 _ (by omega)).trans ((n29 _ (by omega)).trans ((n28 _ (by omega)).trans ((n27 _ (by omega)).trans ((n26 _ (by omega) (by omega) (by omega) (by omega) (by omega) (by omega) (by omega) (by omega) (by omega) (by omega) (by omega) (by omega) (by omega)).trans ((n25 _ (by omega)).trans ((n24 _ (by omega)).trans ((n23 _ (by omega)).trans ((n22 _ (by omega) (by omega) (by omega) (by omega) (by omega) (by omega) (by omega) (by omega) (by omega) (by omega) (by omega) (by omega) (by omega) (by omega) (by omega)).trans ((n21 _ (by omega) (by omega)).trans ((n20 _ (by omega)).trans ((n19 _ (by omega)).trans ((n18 _ (by omega)).trans ((n17 _ (by omega)).trans ((n16 _ (by omega)).trans ((n15 _ (by omega)).trans ((n14 _ (by omega)).trans ((n13 _ (by omega)).trans ((n12 _ (by omega)).trans k11_28))))))))))))))))))))), ((n32 _ (by omega)).trans ((n31 _ (by omega)).trans ((n30 _ (by omega)).trans ((n29 _ (by omega)).trans ((n28 _ (by omega)).trans ((n27 _ (by omega)).trans ((n26 _ (by omega) (by omega) (by omega) (by omega) (by omega) (by omega) (by omega) (by omega) (by omega) (by omega) (by omega) (by omega) (by omega)).trans ((n25 _ (by omega)).trans ((n24 _ (by omega)).trans ((n23 _ (by omega)).trans ((n22 _ (by omega) (by omega) (by omega) (by omega) (by omega) (by omega) (by omega) (by omega) (by omega) (by omega) (by omega) (by omega) (by omega) (by omega) (by omega)).trans ((n21 _ (by omega) (by omega)).trans ((n20 _ (by omega)).trans ((n19 _ (by omega)).trans ((n18 _ (by omega)).trans ((n17 _ (by omega)).trans ((n16 _ (by omega)).trans ((n15 _ (by omega)).trans ((n14 _ (by omega)).trans ((n13 _ (by omega)).trans ((n12 _ (by omega)).trans k11_29))))))))))))))))))))), ((n32 _ (by omega)).trans ((n31 _ (by omega)).trans ((n30 _ (by omega)).trans ((n29 _ (by omega)).trans ((n28 _ (by omega)).trans ((n27 _ (by omega)).trans ((n26 _ (by omega) (by omega) (by omega) (by omega) (by omega) (by omega) (by omega) (by omega) (by omega) (by omega) (by omega) (by omega) (by omega)).trans ((n25 _ (by omega)).trans ((n24 _ (by omega)).trans ((n23 _ (by omega)).trans ((n22 _ (by omega) (by omega) (by omega) (by omega) (by omega) (by omega) (by omega) (by omega) (by omega) (by omega) (by omega) (by omega) (by omega) (by omega) (by omega)).trans ((n21 _ (by omega) (by omega)).trans ((n20 _ (by omega)).trans ((n19 _ (by omega)).trans ((n18 _ (by omega)).trans ((n17 _ (by omega)).trans ((n16 _ (by omega)).trans ((n15 _ (by omega)).trans ((n14 _ (by omega)).trans ((n13 _ (by omega)).trans ((n12 _ (by omega)).trans k11_30))))))))))))))))))))), ((n32 _ (by omega)).trans ((n31 _ (by omega)).trans ((n30 _ (by omega)).trans ((n29 _ (by omega)).trans ((n28 _ (by omega)).trans ((n27 _ (by omega)).trans ((n26 _ (by omega) (by omega) (by omega) (by omega) (by omega) (by omega) (by omega) (by omega) (by omega) (by omega) (by omega) (by omega) (by omega)).trans ((n25 _ (by omega)).trans ((n24 _ (by omega)).trans ((n23 _ (by omega)).trans ((n22 _ (by omega) (by omega) (by omega) (by omega) (by omega) (by omega) (by omega) (by omega) (by omega) (by omega) (by omega) (by omega) (by omega) (by omega) (by omega)).trans ((n21 _ (by omega) (by omega)).trans ((n20 _ (by omega)).trans ((n19 _ (by omega)).trans ((n18 _ (by omega)).trans ((n17 _ (by omega)).trans ((n16 _ (by omega)).trans ((n15 _ (by omega)).trans ((n14 _ (by omega)).trans ((n13 _ (by omega)).trans ((n12 _ (by omega)).trans k11_31))))))))))))))))))))), ((n32 _ (by omega)).trans ((n31 _ (by omega)).trans ((n30 _ (by omega)).trans ((n29 _ (by omega)).trans ((n28 _ (by omega)).trans ((n27 _ (by omega)).trans ((n26 _ (by omega) (by omega) (by omega) (by omega) (by omega) (by omega) (by omega) (by omega) (by omega) (by omega) (by omega) (by omega) (by omega)).trans ((n25 _ (by omega)).trans ((n24 _ (by omega)).trans ((n23 _ (by omega)).trans ((n22 _ (by omega) (by omega) (by omega) (by omega) (by omega) (by omega) (by omega) (by omega) (by omega) (by omega) (by omega) (by omega) (by omega) (by omega) (by omega)).trans ((n21 _ (by omega) (by omega)).trans ((n20 _ (by omega)).trans ((n19 _ (by omega)).trans ((n18 _ (by omega)).trans ((n17 _ (by omega)).trans ((n16 _ (by omega)).trans ((n15 _ (by omega)).trans ((n14 _ (by omega)).trans ((n13 _ (by omega)).trans ((n12 _ (by omega)).trans k11_32))))))))))))))))))))), ((n32 _ (by omega)).trans ((n31 _ (by omega)).trans ((n30 _ (by omega)).trans ((n29 _ (by omega)).trans ((n28 _ (by omega)).trans ((n27 _ (by omega)).trans ((n26 _ (by omega) (by omega) (by omega) (by omega) (by omega) (by omega) (by omega) (by omega) (by omega) (by omega) (by omega) (by omega) (by omega)).trans ((n25 _ (by omega)).trans ((n24 _ (by omega)).trans ((n23 _ (by omega)).trans ((n22 _ (by omega) (by omega) (by omega) (by omega) (by omega) (by omega) (by omega) (by omega) (by omega) (by omega) (by omega) (by omega) (by omega) (by omega) (by omega)).trans ((n21 _ (by omega) (by omega)).trans ((n20 _ (by omega)).trans ((n19 _ (by omega)).trans ((n18 _ (by omega)).trans ((n17 _ (by omega)).trans ((n16 _ (by omega)).trans ((n15 _ (by omega)).trans ((n14 _ (by omega)).trans ((n13 _ (by omega)).trans ((n12 _ (by omega)).trans k11_33))))))))))))))))))))), ((n32 _ (by omega)).trans ((n31 _ (by omega)).trans ((n30 _ (by omega)).trans ((n29 _ (by omega)).trans ((n28 _ (by omega)).trans ((n27 _ (by omega)).trans ((n26 _ (by omega) (by omega) (by omega) (by omega) (by omega) (by omega) (by omega) (by omega) (by omega) (by omega) (by omega) (by omega) (by omega)).trans ((n25 _ (by omega)).trans ((n24 _ (by omega)).trans ((n23 _ (by omega)).trans ((n22 _ (by omega) (by omega) (by omega) (by omega) (by omega) (by omega) (by omega) (by omega) (by omega) (by omega) (by omega) (by omega) (by omega) (by omega) (by omega)).trans ((n21 _ (by omega) (by omega)).trans ((n20 _ (by omega)).trans ((n19 _ (by omega)).trans ((n18 _ (by omega)).trans ((n17 _ (by omega)).trans ((n16 _ (by omega)).trans ((n15 _ (by omega)).trans ((n14 _ (by omega)).trans ((n13 _ (by omega)).trans ((n12 _ (by omega)).trans k11_34))))))))))))))))))))), ((n32 _ (by omega)).trans ((n31 _ (by omega)).trans ((n30 _ (by omega)).trans ((n29 _ (by omega)).trans ((n28 _ (by omega)).trans ((n27 _ (by omega)).trans ((n26 _ (by omega) (by omega) (by omega) (by omega) (by omega) (by omega) (by omega) (by omega) (by omega) (by omega) (by omega) (by omega) (by omega)).trans ((n25 _ (by omega)).trans ((n24 _ (by omega)).trans ((n23 _ (by omega)).trans ((n22 _ (by omega) (by omega) (by omega) (by omega) (by omega) (by omega) (by omega) (by omega) (by omega) (by omega) (by omega) (by omega) (by omega) (by omega) (by omega)).trans ((n21 _ (by omega) (by omega)).trans ((n20 _ (by omega)).trans ((n19 _ (by omega)).trans ((n18 _ (by omega)).trans ((n17 _ (by omega)).trans ((n16 _ (by omega)).trans ((n15 _ (by omega)).trans ((n14 _ (by omega)).trans ((n13 _ (by omega)).trans ((n12 _ (by omega)).trans k11_35))))))))))))))))))))), ((n32 _ (by omega)).trans ((n31 _ (by omega)).trans ((n30 _ (by omega)).trans ((n29 _ (by omega)).trans ((n28 _ (by omega)).trans ((n27 _ (by omega)).trans ((n26 _ (by omega) (by omega) (by omega) (by omega) (by omega) (by omega) (by omega) (by omega) (by omega) (by omega) (by omega) (by omega) (by omega)).trans ((n25 _ (by omega)).trans ((n24 _ (by omega)).trans ((n23 _ (by omega)).trans ((n22 _ (by omega) (by omega) (by omega) (by omega) (by omega) (by omega) (by omega) (by omega) (by omega) (by omega) (by omega) (by omega) (by omega) (by omega) (by omega)).trans ((n21 _ (by omega) (by omega)).trans ((n20 _ (by omega)).trans ((n19 _ (by omega)).trans ((n18 _ (by omega)).trans ((n17 _ (by omega)).trans ((n16 _ (by omega)).trans ((n15 _ (by omega)).trans ((n14 _ (by omega)).trans ((n13 _ (by omega)).trans ((n12 _ (by omega)).trans k11_36))))))))))))))))))))), ((n32 _ (by omega)).trans ((n31 _ (by omega)).trans ((n30 _ (by omega)).trans ((n29 _ (by omega)).trans ((n28 _ (by omega)).trans ((n27 _ (by omega)).trans ((n26 _ (by omega) (by omega) (by omega) (by omega) (by omega) (by omega) (by omega) (by omega) (by omega) (by omega) (by omega) (by omega) (by omega)).trans ((n25 _ (by omega)).trans ((n24 _ (by omega)).trans ((n23 _ (by omega)).trans ((n22 _ (by omega) (by omega) (by omega) (by omega) (by omega) (by omega) (by omega) (by omega) (by omega) (by omega) (by omega) (by omega) (by omega) (by omega) (by omega)).trans ((n21 _ (by omega) (by omega)).trans ((n20 _ (by omega)).trans ((n19 _ (by omega)).trans ((n18 _ (by omega)).trans ((n17 _ (by omega)).trans ((n16 _ (by omega)).trans ((n15 _ (by omega)).trans ((n14 _ (by omega)).trans ((n13 _ (by omega)).trans ((n12 _ (by omega)).trans k11_37))))))))))))))))))))), ((n32 _ (by omega)).trans ((n31 _ (by omega)).trans ((n30 _ (by omega)).trans ((n29 _ (by omega)).trans ((n28 _ (by omega)).trans ((n27 _ (by omega)).trans ((n26 _ (by omega) (by omega) (by omega) (by omega) (by omega) (by omega) (by omega) (by omega) (by omega) (by omega) (by omega) (by omega) (by omega)).trans ((n25 _ (by omega)).trans ((n24 _ (by omega)).trans ((n23 _ (by omega)).trans ((n22 _ (by omega) (by omega) (by omega) (by omega) (by omega) (by omega) (by omega) (by omega) (by omega) (by omega) (by omega) (by omega) (by omega) (by omega) (by omega)).trans ((n21 _ (by omega) (by omega)).trans ((n20 _ (by omega)).trans ((n19 _ (by omega)).trans ((n18 _ (by omega)).trans ((n17 _ (by omega)).trans ((n16 _ (by omega)).trans ((n15 _ (by omega)).trans ((n14 _ (by omega)).trans ((n13 _ (by omega)).trans ((n12 _ (by omega)).trans k11_38))))))))))))))))))))), ((n32 _ (by omega)).trans ((n31 _ (by omega)).trans ((n30 _ (by omega)).trans ((n29 _ (by omega)).trans ((n28 _ (by omega)).trans ((n27 _ (by omega)).trans ((n26 _ (by omega) (by omega) (by omega) (by omega) (by omega) (by omega) (by omega) (by omega) (by omega) (by omega) (by omega) (by omega) (by omega)).trans ((n25 _ (by omega)).trans ((n24 _ (by omega)).trans ((n23 _ (by omega)).trans ((n22 _ (by omega) (by omega) (by omega) (by omega) (by omega) (by omega) (by omega) (by omega) (by omega) (by omega) (by omega) (by omega) (by omega) (by omega) (by omega)).trans ((n21 _ (by omega) (by omega)).trans ((n20 _ (by omega)).trans ((n19 _ (by omega)).trans ((n18 _ (by omega)).trans ((n17 _ (by omega)).trans ((n16 _ (by omega)).trans ((n15 _ (by omega)).trans ((n14 _ (by omega)).trans ((n13 _ (by omega)).trans ((n12 _ (by omega)).trans k11_39))))))))))))))))))))), ((n32 _ (by omega)).trans ((n31 _ (by omega)).trans ((n30 _ (by omega)).trans ((n29 _ (by omega)).trans ((n28 _ (by omega)).trans ((n27 _ (by omega)).trans ((n26 _ (by omega) (by omega) (by omega) (by omega) (by omega) (by omega) (by omega) (by omega) (by omega) (by omega) (by omega) (by omega) (by omega)).trans ((n25 _ (by omega)).trans ((n24 _ (by omega)).trans ((n23 _ (by omega)).trans ((n22 _ (by omega) (by omega) (by omega) (by omega) (by omega) (by omega) (by omega) (by omega) (by omega) (by omega) (by omega) (by omega) (by omega) (by omega) (by omega)).trans ((n21 _ (by omega) (by omega)).trans ((n20 _ (by omega)).trans ((n19 _ (by omega)).trans ((n18 _ (by omega)).trans ((n17 _ (by omega)).trans ((n16 _ (by omega)).trans ((n15 _ (by omega)).trans ((n14 _ (by omega)).trans ((n13 _ (by omega)).trans ((n12 _ (by omega)).trans k11_40))))))))))))))))))))), ((n32 _ (by omega)).trans ((n31 _ (by omega)).trans ((n30 _ (by omega)).trans ((n29 _ (by omega)).trans ((n28 _ (by omega)).trans ((n27 _ (by omega)).trans ((n26 _ (by omega) (by omega) (by omega) (by omega) (by omega) (by omega) (by omega) (by omega) (by omega) (by omega) (by omega) (by omega) (by omega)).trans ((n25 _ (by omega)).trans ((n24 _ (by omega)).trans ((n23 _ (by omega)).trans ((n22 _ (by omega) (by omega) (by omega) (by omega) (by omega) (by omega) (by omega) (by omega) (by omega) (by omega) (by omega) (by omega) (by omega) (by omega) (by omega)).trans ((n21 _ (by omega) (by omega)).trans ((n20 _ (by omega)).trans ((n19 _ (by omega)).trans ((n18 _ (by omega)).trans ((n17 _ (by omega)).trans ((n16 _ (by omega)).trans ((n15 _ (by omega)).trans ((n14 _ (by omega)).trans ((n13 _ (by omega)).trans ((n12 _ (by omega)).trans k11_41))))))))))))))))))))), ((n32 _ (by omega)).trans ((n31 _ (by omega)).trans ((n30 _ (by omega)).trans ((n29 _ (by omega)).trans ((n28 _ (by omega)).trans ((n27 _ (by omega)).trans ((n26 _ (by omega) (by omega) (by omega) (by omega) (by omega) (by omega) (by omega) (by omega) (by omega) (by omega) (by omega) (by omega) (by omega)).trans ((n25 _ (by omega)).trans ((n24 _ (by omega)).trans ((n23 _ (by omega)).trans ((n22 _ (by omega) (by omega) (by omega) (by omega) (by omega) (by omega) (by omega) (by omega) (by omega) (by omega) (by omega) (by omega) (by omega) (by omega) (by omega)).trans ((n21 _ (by omega) (by omega)).trans ((n20 _ (by omega)).trans ((n19 _ (by omega)).trans ((n18 _ (by omega)).trans ((n17 _ (by omega)).trans ((n16 _ (by omega)).trans ((n15 _ (by omega)).trans ((n14 _ (by omega)).trans ((n13 _ (by omega)).trans ((n12 _ (by omega)).trans k11_42))))))))))))))))))))), ((n32 _ (by omega)).trans ((n31 _ (by omega)).trans ((n30 _ (by omega)).trans ((n29 _ (by omega)).trans ((n28 _ (by omega)).trans ((n27 _ (by omega)).trans ((n26 _ (by omega) (by omega) (by omega) (by omega) (by omega) (by omega) (by omega) (by omega) (by omega) (by omega) (by omega) (by omega) (by omega)).trans ((n25 _ (by omega)).trans ((n24 _ (by omega)).trans ((n23 _ (by omega)).trans ((n22 _ (by omega) (by omega) (by omega) (by omega) (by omega) (by omega) (by omega) (by omega) (by omega) (by omega) (by omega) (by omega) (by omega) (by omega) (by omega)).trans ((n21 _ (by omega) (by omega)).trans ((n20 _ (by omega)).trans ((n19 _ (by omega)).trans ((n18 _ (by omega)).trans ((n17 _ (by omega)).trans ((n16 _ (by omega)).trans ((n15 _ (by omega)).trans ((n14 _ (by omega)).trans ((n13 _ (by omega)).trans ((n12 _ (by omega)).trans k11_43))))))))))))))))))))), ((n32 _ (by omega)).trans ((n31 _ (by omega)).trans ((n30 _ (by omega)).trans ((n29 _ (by omega)).trans ((n28 _ (by omega)).trans ((n27 _ (by omega)).trans ((n26 _ (by omega) (by omega) (by omega) (by omega) (by omega) (by omega) (by omega) (by omega) (by omega) (by omega) (by omega) (by omega) (by omega)).trans ((n25 _ (by omega)).trans ((n24 _ (by omega)).trans ((n23 _ (by omega)).trans ((n22 _ (by omega) (by omega) (by omega) (by omega) (by omega) (by omega) (by omega) (by omega) (by omega) (by omega) (by omega) (by omega) (by omega) (by omega) (by omega)).trans ((n21 _ (by omega) (by omega)).trans ((n20 _ (by omega)).trans ((n19 _ (by omega)).trans ((n18 _ (by omega)).trans ((n17 _ (by omega)).trans ((n16 _ (by omega)).trans ((n15 _ (by omega)).trans ((n14 _ (by omega)).trans ((n13 _ (by omega)).trans ((n12 _ (by omega)).trans k11_44))))))))))))))))))))), ((n32 _ (by omega)).trans ((n31 _ (by omega)).trans ((n30 _ (by omega)).trans ((n29 _ (by omega)).trans ((n28 _ (by omega)).trans ((n27 _ (by omega)).trans ((n26 _ (by omega) (by omega) (by omega) (by omega) (by omega) (by omega) (by omega) (by omega) (by omega) (by omega) (by omega) (by omega) (by omega)).trans ((n25 _ (by omega)).trans ((n24 _ (by omega)).trans ((n23 _ (by omega)).trans ((n22 _ (by omega) (by omega) (by omega) (by omega) (by omega) (by omega) (by omega) (by omega) (by omega) (by omega) (by omega) (by omega) (by omega) (by omega) (by omega)).trans ((n21 _ (by omega) (by omega)).trans ((n20 _ (by omega)).trans ((n19 _ (by omega)).trans ((n18 _ (by omega)).trans ((n17 _ (by omega)).trans ((n16 _ (by omega)).trans ((n15 _ (by omega)).trans ((n14 _ (by omega)).trans ((n13 _ (by omega)).trans ((n12 _ (by omega)).trans k11_45))))))))))))))))))))), ((n32 _ (by omega)).trans ((n31 _ (by omega)).trans ((n30 _ (by omega)).trans ((n29 _ (by omega)).trans ((n28 _ (by omega)).trans ((n27 _ (by omega)).trans ((n26 _ (by omega) (by omega) (by omega) (by omega) (by omega) (by omega) (by omega) (by omega) (by omega) (by omega) (by omega) (by omega) (by omega)).trans ((n25 _ (by omega)).trans ((n24 _ (by omega)).trans ((n23 _ (by omega)).trans ((n22 _ (by omega) (by omega) (by omega) (by omega) (by omega) (by omega) (by omega) (by omega) (by omega) (by omega) (by omega) (by omega) (by omega) (by omega) (by omega)).trans ((n21 _ (by omega) (by omega)).trans ((n20 _ (by omega)).trans ((n19 _ (by omega)).trans ((n18 _ (by omega)).trans ((n17 _ (by omega)).trans ((n16 _ (by omega)).trans ((n15 _ (by omega)).trans ((n14 _ (by omega)).trans ((n13 _ (by omega)).trans ((n12 _ (by omega)).trans k11_46))))))))))))))))))))), ((n32 _ (by omega)).trans ((n31 _ (by omega)).trans ((n30 _ (by omega)).trans ((n29 _ (by omega)).trans ((n28 _ (by omega)).trans ((n27 _ (by omega)).trans ((n26 _ (by omega) (by omega) (by omega) (by omega) (by omega) (by omega) (by omega) (by omega) (by omega) (by omega) (by omega) (by omega) (by omega)).trans ((n25 _ (by omega)).trans ((n24 _ (by omega)).trans ((n23 _ (by omega)).trans ((n22 _ (by omega) (by omega) (by omega) (by omega) (by omega) (by omega) (by omega) (by omega) (by omega) (by omega) (by omega) (by omega) (by omega) (by omega) (by omega)).trans ((n21 _ (by omega) (by omega)).trans ((n20 _ (by omega)).trans ((n19 _ (by omega)).trans ((n18 _ (by omega)).trans ((n17 _ (by omega)).trans ((n16 _ (by omega)).trans ((n15 _ (by omega)).trans ((n14 _ (by omega)).trans ((n13 _ (by omega)).trans ((n12 _ (by omega)).trans k11_47))))))))))))))))))))), ((n32 _ (by omega)).trans ((n31 _ (by omega)).trans ((n30 _ (by omega)).trans ((n29 _ (by omega)).trans ((n28 _ (by omega)).trans ((n27 _ (by omega)).trans ((n26 _ (by omega) (by omega) (by omega) (by omega) (by omega) (by omega) (by omega) (by omega) (by omega) (by omega) (by omega) (by omega) (by omega)).trans ((n25 _ (by omega)).trans ((n24 _ (by omega)).trans ((n23 _ (by omega)).trans ((n22 _ (by omega) (by omega) (by omega) (by omega) (by omega) (by omega) (by omega) (by omega) (by omega) (by omega) (by omega) (by omega) (by omega) (by omega) (by omega)).trans ((n21 _ (by omega) (by omega)).trans ((n20 _ (by omega)).trans ((n19 _ (by omega)).trans ((n18 _ (by omega)).trans ((n17 _ (by omega)).trans ((n16 _ (by omega)).trans ((n15 _ (by omega)).trans ((n14 _ (by omega)).trans ((n13 _ (by omega)).trans ((n12 _ (by omega)).trans k11_48))))))))))))))))))))), ((n32 _ (by omega)).trans ((n31 _ (by omega)).trans ((n30 _ (by omega)).trans ((n29 _ (by omega)).trans ((n28 _ (by omega)).trans ((n27 _ (by omega)).trans ((n26 _ (by omega) (by omega) (by omega) (by omega) (by omega) (by omega) (by omega) (by omega) (by omega) (by omega) (by omega) (by omega) (by omega)).trans ((n25 _ (by omega)).trans ((n24 _ (by omega)).trans ((n23 _ (by omega)).trans ((n22 _ (by omega) (by omega) (by omega) (by omega) (by omega) (by omega) (by omega) (by omega) (by omega) (by omega) (by omega) (by omega) (by omega) (by omega) (by omega)).trans ((n21 _ (by omega) (by omega)).trans ((n20 _ (by omega)).trans ((n19 _ (by omega)).trans ((n18 _ (by omega)).trans ((n17 _ (by omega)).trans ((n16 _ (by omega)).trans ((n15 _ (by omega)).trans ((n14 _ (by omega)).trans ((n13 _ (by omega)).trans ((n12 _ (by omega)).trans k11_49))))))))))))))))))))), ((n32 _ (by omega)).trans ((n31 _ (by omega)).trans ((n30 _ (by omega)).trans ((n29 _ (by omega)).trans ((n28 _ (by omega)).trans ((n27 _ (by omega)).trans ((n26 _ (by omega) (by omega) (by omega) (by omega) (by omega) (by omega) (by omega) (by omega) (by omega) (by omega) (by omega) (by omega) (by omega)).trans ((n25 _ (by omega)).trans ((n24 _ (by omega)).trans ((n23 _ (by omega)).trans ((n22 _ (by omega) (by omega) (by omega) (by omega) (by omega) (by omega) (by omega) (by omega) (by omega) (by omega) (by omega) (by omega) (by omega) (by omega) (by omega)).trans ((n21 _ (by omega) (by omega)).trans ((n20 _ (by omega)).trans ((n19 _ (by omega)).trans ((n18 _ (by omega)).trans ((n17 _ (by omega)).trans ((n16 _ (by omega)).trans ((n15 _ (by omega)).trans ((n14 _ (by omega)).trans ((n13 _ (by omega)).trans ((n12 _ (by omega)).trans k11_50))))))))))))))))))))), ((n32 _ (by omega)).trans ((n31 _ (by omega)).trans ((n30 _ (by omega)).trans ((n29 _ (by omega)).trans ((n28 _ (by omega)).trans ((n27 _ (by omega)).trans ((n26 _ (by omega) (by omega) (by omega) (by omega) (by omega) (by omega) (by omega) (by omega) (by omega) (by omega) (by omega) (by omega) (by omega)).trans ((n25 _ (by omega)).trans ((n24 _ (by omega)).trans ((n23 _ (by omega)).trans ((n22 _ (by omega) (by omega) (by omega) (by omega) (by omega) (by omega) (by omega) (by omega) (by omega) (by omega) (by omega) (by omega) (by omega) (by omega) (by omega)).trans ((n21 _ (by omega) (by omega)).trans ((n20 _ (by omega)).trans ((n19 _ (by omega)).trans ((n18 _ (by omega)).trans ((n17 _ (by omega)).trans ((n16 _ (by omega)).trans ((n15 _ (by omega)).trans ((n14 _ (by omega)).trans ((n13 _ (by omega)).trans ((n12 _ (by omega)).trans k11_51))))))))))))))))))))), ((n32 _ (by omega)).trans ((n31 _ (by omega)).trans ((n30 _ (by omega)).trans ((n29 _ (by omega)).trans ((n28 _ (by omega)).trans ((n27 _ (by omega)).trans ((n26 _ (by omega) (by omega) (by omega) (by omega) (by omega) (by omega) (by omega) (by omega) (by omega) (by omega) (by omega) (by omega) (by omega)).trans ((n25 _ (by omega)).trans ((n24 _ (by omega)).trans ((n23 _ (by omega)).trans ((n22 _ (by omega) (by omega) (by omega) (by omega) (by omega) (by omega) (by omega) (by omega) (by omega) (by omega) (by omega) (by omega) (by omega) (by omega) (by omega)).trans ((n21 _ (by omega) (by omega)).trans ((n20 _ (by omega)).trans ((n19 _ (by omega)).trans ((n18 _ (by omega)).trans ((n17 _ (by omega)).trans ((n16 _ (by omega)).trans ((n15 _ (by omega)).trans ((n14 _ (by omega)).trans ((n13 _ (by omega)).trans ((n12 _ (by omega)).trans k11_52))))))))))))))))))))), ((n32 _ (by omega)).trans ((n31 _ (by omega)).trans ((n30 _ (by omega)).trans ((n29 _ (by omega)).trans ((n28 _ (by omega)).trans ((n27 _ (by omega)).trans ((n26 _ (by omega) (by omega) (by omega) (by omega) (by omega) (by omega) (by omega) (by omega) (by omega) (by omega) (by omega) (by omega) (by omega)).trans ((n25 _ (by omega)).trans ((n24 _ (by omega)).trans ((n23 _ (by omega)).trans ((n22 _ (by omega) (by omega) (by omega) (by omega) (by omega) (by omega) (by omega) (by omega) (by omega) (by omega) (by omega) (by omega) (by omega) (by omega) (by omega)).trans ((n21 _ (by omega) (by omega)).trans ((n20 _ (by omega)).trans ((n19 _ (by omega)).trans ((n18 _ (by omega)).trans ((n17 _ (by omega)).trans ((n16 _ (by omega)).trans ((n15 _ (by omega)).trans ((n14 _ (by omega)).trans ((n13 _ (by omega)).trans ((n12 _ (by omega)).trans k11_53))))))))))))))))))))), ((n32 _ (by omega)).trans ((n31 _ (by omega)).trans ((n30 _ (by omega)).trans ((n29 _ (by omega)).trans ((n28 _ (by omega)).trans ((n27 _ (by omega)).trans ((n26 _ (by omega) (by omega) (by omega) (by omega) (by omega) (by omega) (by omega) (by omega) (by omega) (by omega) (by omega) (by omega) (by omega)).trans ((n25 _ (by omega)).trans ((n24 _ (by omega)).trans ((n23 _ (by omega)).trans ((n22 _ (by omega) (by omega) (by omega) (by omega) (by omega) (by omega) (by omega) (by omega) (by omega) (by omega) (by omega) (by omega) (by omega) (by omega) (by omega)).trans ((n21 _ (by omega) (by omega)).trans ((n20 _ (by omega)).trans ((n19 _ (by omega)).trans ((n18 _ (by omega)).trans ((n17 _ (by omega)).trans ((n16 _ (by omega)).trans ((n15 _ (by omega)).trans ((n14 _ (by omega)).trans ((n13 _ (by omega)).trans ((n12 _ (by omega)).trans k11_54))))))))))))))))))))), ((n32 _ (by omega)).trans ((n31 _ (by omega)).trans ((n30 _ (by omega)).trans ((n29 _ (by omega)).trans ((n28 _ (by omega)).trans ((n27 _ (by omega)).trans ((n26 _ (by omega) (by omega) (by omega) (by omega) (by omega) (by omega) (by omega) (by omega) (by omega) (by omega) (by omega) (by omega) (by omega)).trans ((n25 _ (by omega)).trans ((n24 _ (by omega)).trans ((n23 _ (by omega)).trans ((n22 _ (by omega) (by omega) (by omega) (by omega) (by omega) (by omega) (by omega) (by omega) (by omega) (by omega) (by omega) (by omega) (by omega) (by omega) (by omega)).trans ((n21 _ (by omega) (by omega)).trans ((n20 _ (by omega)).trans ((n19 _ (by omega)).trans ((n18 _ (by omega)).trans ((n17 _ (by omega)).trans ((n16 _ (by omega)).trans ((n15 _ (by omega)).trans ((n14 _ (by omega)).trans ((n13 _ (by omega)).trans ((n12 _ (by omega)).trans k11_55))))))))))))))))))))), ((n32 _ (by omega)).trans ((n31 _ (by omega)).trans ((n30 _ (by omega)).trans ((n29 _ (by omega)).trans ((n28 _ (by omega)).trans ((n27 _ (by omega)).trans ((n26 _ (by omega) (by omega) (by omega) (by omega) (by omega) (by omega) (by omega) (by omega) (by omega) (by omega) (by omega) (by omega) (by omega)).trans ((n25 _ (by omega)).trans ((n24 _ (by omega)).trans ((n23 _ (by omega)).trans ((n22 _ (by omega) (by omega) (by omega) (by omega) (by omega) (by omega) (by omega) (by omega) (by omega) (by omega) (by omega) (by omega) (by omega) (by omega) (by omega)).trans ((n21 _ (by omega) (by omega)).trans ((n20 _ (by omega)).trans ((n19 _ (by omega)).trans ((n18 _ (by omega)).trans ((n17 _ (by omega)).trans ((n16 _ (by omega)).trans ((n15 _ (by omega)).trans ((n14 _ (by omega)).trans ((n13 _ (by omega)).trans ((n12 _ (by omega)).trans k11_56))))))))))))))))))))), ((n32 _ (by omega)).trans ((n31 _ (by omega)).trans ((n30 _ (by omega)).trans ((n29 _ (by omega)).trans ((n28 _ (by omega)).trans ((n27 _ (by omega)).trans ((n26 _ (by omega) (by omega) (by omega) (by omega) (by omega) (by omega) (by omega) (by omega) (by omega) (by omega) (by omega) (by omega) (by omega)).trans ((n25 _ (by omega)).trans ((n24 _ (by omega)).trans ((n23 _ (by omega)).trans ((n22 _ (by omega) (by omega) (by omega) (by omega) (by omega) (by omega) (by omega) (by omega) (by omega) (by omega) (by omega) (by omega) (by omega) (by omega) (by omega)).trans ((n21 _ (by omega) (by omega)).trans ((n20 _ (by omega)).trans ((n19 _ (by omega)).trans ((n18 _ (by omega)).trans ((n17 _ (by omega)).trans ((n16 _ (by omega)).trans ((n15 _ (by omega)).trans ((n14 _ (by omega)).trans ((n13 _ (by omega)).trans ((n12 _ (by omega)).trans k11_57))))))))))))))))))))), ((n32 _ (by omega)).trans ((n31 _ (by omega)).trans ((n30 _ (by omega)).trans ((n29 _ (by omega)).trans ((n28 _ (by omega)).trans ((n27 _ (by omega)).trans ((n26 _ (by omega) (by omega) (by omega) (by omega) (by omega) (by omega) (by omega) (by omega) (by omega) (by omega) (by omega) (by omega) (by omega)).trans ((n25 _ (by omega)).trans ((n24 _ (by omega)).trans ((n23 _ (by omega)).trans ((n22 _ (by omega) (by omega) (by omega) (by omega) (by omega) (by omega) (by omega) (by omega) (by omega) (by omega) (by omega) (by omega) (by omega) (by omega) (by omega)).trans ((n21 _ (by omega) (by omega)).trans ((n20 _ (by omega)).trans ((n19 _ (by omega)).trans ((n18 _ (by omega)).trans ((n17 _ (by omega)).trans ((n16 _ (by omega)).trans ((n15 _ (by omega)).trans ((n14 _ (by omega)).trans ((n13 _ (by omega)).trans ((n12 _ (by omega)).trans k11_58))))))))))))))))))))), ((n32 _ (by omega)).trans ((n31 _ (by omega)).trans ((n30 _ (by omega)).trans ((n29 _ (by omega)).trans ((n28 _ (by omega)).trans ((n27 _ (by omega)).trans ((n26 _ (by omega) (by omega) (by omega) (by omega) (by omega) (by omega) (by omega) (by omega) (by omega) (by omega) (by omega) (by omega) (by omega)).trans ((n25 _ (by omega)).trans ((n24 _ (by omega)).trans ((n23 _ (by omega)).trans ((n22 _ (by omega) (by omega) (by omega) (by omega) (by omega) (by omega) (by omega) (by omega) (by omega) (by omega) (by omega) (by omega) (by omega) (by omega) (by omega)).trans ((n21 _ (by omega) (by omega)).trans ((n20 _ (by omega)).trans ((n19 _ (by omega)).trans ((n18 _ (by omega)).trans ((n17 _ (by omega)).trans ((n16 _ (by omega)).trans ((n15 _ (by omega)).trans ((n14 _ (by omega)).trans ((n13 _ (by omega)).trans ((n12 _ (by omega)).trans k11_59))))))))))))))))))))), ((n32 _ (by omega)).trans ((n31 _ (by omega)).trans ((n30 _ (by omega)).trans ((n29 _ (by omega)).trans ((n28 _ (by omega)).trans ((n27 _ (by omega)).trans ((n26 _ (by omega) (by omega) (by omega) (by omega) (by omega) (by omega) (by omega) (by omega) (by omega) (by omega) (by omega) (by omega) (by omega)).trans ((n25 _ (by omega)).trans ((n24 _ (by omega)).trans ((n23 _ (by omega)).trans ((n22 _ (by omega) (by omega) (by omega) (by omega) (by omega) (by omega) (by omega) (by omega) (by omega) (by omega) (by omega) (by omega) (by omega) (by omega) (by omega)).trans ((n21 _ (by omega) (by omega)).trans ((n20 _ (by omega)).trans ((n19 _ (by omega)).trans ((n18 _ (by omega)).trans ((n17 _ (by omega)).trans ((n16 _ (by omega)).trans ((n15 _ (by omega)).trans ((n14 _ (by omega)).trans ((n13 _ (by omega)).trans ((n12 _ (by omega)).trans k11_60))))))))))))))))))))), ((n32 _ (by omega)).trans ((n31 _ (by omega)).trans ((n30 _ (by omega)).trans ((n29 _ (by omega)).trans ((n28 _ (by omega)).trans ((n27 _ (by omega)).trans ((n26 _ (by omega) (by omega) (by omega) (by omega) (by omega) (by omega) (by omega) (by omega) (by omega) (by omega) (by omega) (by omega) (by omega)).trans ((n25 _ (by omega)).trans ((n24 _ (by omega)).trans ((n23 _ (by omega)).trans ((n22 _ (by omega) (by omega) (by omega) (by omega) (by omega) (by omega) (by omega) (by omega) (by omega) (by omega) (by omega) (by omega) (by omega) (by omega) (by omega)).trans ((n21 _ (by omega) (by omega)).trans ((n20 _ (by omega)).trans ((n19 _ (by omega)).trans ((n18 _ (by omega)).trans ((n17 _ (by omega)).trans ((n16 _ (by omega)).trans ((n15 _ (by omega)).trans ((n14 _ (by omega)).trans ((n13 _ (by omega)).trans ((n12 _ (by omega)).trans k11_61))))))))))))))))))))), ((n32 _ (by omega)).trans ((n31 _ (by omega)).trans ((n30 _ (by omega)).trans ((n29 _ (by omega)).trans ((n28 _ (by omega)).trans ((n27 _ (by omega)).trans ((n26 _ (by omega) (by omega) (by omega) (by omega) (by omega) (by omega) (by omega) (by omega) (by omega) (by omega) (by omega) (by omega) (by omega)).trans ((n25 _ (by omega)).trans ((n24 _ (by omega)).trans ((n23 _ (by omega)).trans ((n22 _ (by omega) (by omega) (by omega) (by omega) (by omega) (by omega) (by omega) (by omega) (by omega) (by omega) (by omega) (by omega) (by omega) (by omega) (by omega)).trans ((n21 _ (by omega) (by omega)).trans ((n20 _ (by omega)).trans ((n19 _ (by omega)).trans ((n18 _ (by omega)).trans ((n17 _ (by omega)).trans ((n16 _ (by omega)).trans ((n15 _ (by omega)).trans ((n14 _ (by omega)).trans ((n13 _ (by omega)).trans ((n12 _ (by omega)).trans k11_62))))))))))))))))))))), ((n32 _ (by omega)).trans ((n31 _ (by omega)).trans ((n30 _ (by omega)).trans ((n29 _ (by omega)).trans ((n28 _ (by omega)).trans ((n27 _ (by omega)).trans ((n26 _ (by omega) (by omega) (by omega) (by omega) (by omega) (by omega) (by omega) (by omega) (by omega) (by omega) (by omega) (by omega) (by omega)).trans ((n25 _ (by omega)).trans ((n24 _ (by omega)).trans ((n23 _ (by omega)).trans ((n22 _ (by omega) (by omega) (by omega) (by omega) (by omega) (by omega) (by omega) (by omega) (by omega) (by omega) (by omega) (by omega) (by omega) (by omega) (by omega)).trans ((n21 _ (by omega) (by omega)).trans ((n20 _ (by omega)).trans ((n19 _ (by omega)).trans ((n18 _ (by omega)).trans ((n17 _ (by omega)).trans ((n16 _ (by omega)).trans ((n15 _ (by omega)).trans ((n14 _ (by omega)).trans ((n13 _ (by omega)).trans ((n12 _ (by omega)).trans k11_63))))))))))))))))))))), ((n32 _ (by omega)).trans ((n31 _ (by omega)).trans ((n30 _ (by omega)).trans ((n29 _ (by omega)).trans ((n28 _ (by omega)).trans ((n27 _ (by omega)).trans ((n26 _ (by omega) (by omega) (by omega) (by omega) (by omega) (by omega) (by omega) (by omega) (by omega) (by omega) (by omega) (by omega) (by omega)).trans ((n25 _ (by omega)).trans ((n24 _ (by omega)).trans ((n23 _ (by omega)).trans ((n22 _ (by omega) (by omega) (by omega) (by omega) (by omega) (by omega) (by omega) (by omega) (by omega) (by omega) (by omega) (by omega) (by omega) (by omega) (by omega)).trans ((n21 _ (by omega) (by omega)).trans ((n20 _ (by omega)).trans ((n19 _ (by omega)).trans ((n18 _ (by omega)).trans ((n17 _ (by omega)).trans ((n16 _ (by omega)).trans ((n15 _ (by omega)).trans ((n14 _ (by omega)).trans ((n13 _ (by omega)).trans ((n12 _ (by omega)).trans k11_64))))))))))))))))))))), ((n32 _ (by omega)).trans ((n31 _ (by omega)).trans ((n30 _ (by omega)).trans ((n29 _ (by omega)).trans ((n28 _ (by omega)).trans ((n27 _ (by omega)).trans ((n26 _ (by omega) (by omega) (by omega) (by omega) (by omega) (by omega) (by omega) (by omega) (by omega) (by omega) (by omega) (by omega) (by omega)).trans ((n25 _ (by omega)).trans ((n24 _ (by omega)).trans ((n23 _ (by omega)).trans ((n22 _ (by omega) (by omega) (by omega) (by omega) (by omega) (by omega) (by omega) (by omega) (by omega) (by omega) (by omega) (by omega) (by omega) (by omega) (by omega)).trans ((n21 _ (by omega) (by omega)).trans ((n20 _ (by omega)).trans ((n19 _ (by omega)).trans ((n18 _ (by omega)).trans ((n17 _ (by omega)).trans ((n16 _ (by omega)).trans ((n15 _ (by omega)).trans ((n14 _ (by omega)).trans ((n13 _ (by omega)).trans ((n12 _ (by omega)).trans k11_65))))))))))))))))))))), ((n32 _ (by omega)).trans ((n31 _ (by omega)).trans ((n30 _ (by omega)).trans ((n29 _ (by omega)).trans ((n28 _ (by omega)).trans ((n27 _ (by omega)).trans ((n26 _ (by omega) (by omega) (by omega) (by omega) (by omega) (by omega) (by omega) (by omega) (by omega) (by omega) (by omega) (by omega) (by omega)).trans ((n25 _ (by omega)).trans ((n24 _ (by omega)).trans ((n23 _ (by omega)).trans ((n22 _ (by omega) (by omega) (by omega) (by omega) (by omega) (by omega) (by omega) (by omega) (by omega) (by omega) (by omega) (by omega) (by omega) (by omega) (by omega)).trans ((n21 _ (by omega) (by omega)).trans ((n20 _ (by omega)).trans ((n19 _ (by omega)).trans ((n18 _ (by omega)).trans ((n17 _ (by omega)).trans ((n16 _ (by omega)).trans ((n15 _ (by omega)).trans ((n14 _ (by omega)).trans ((n13 _ (by omega)).trans ((n12 _ (by omega)).trans k11_66))))))))))))))))))))), ((n32 _ (by omega)).trans ((n31 _ (by omega)).trans ((n30 _ (by omega)).trans ((n29 _ (by omega)).trans ((n28 _ (by omega)).trans ((n27 _ (by omega)).trans ((n26 _ (by omega) (by omega) (by omega) (by omega) (by omega) (by omega) (by omega) (by omega) (by omega) (by omega) (by omega) (by omega) (by omega)).trans ((n25 _ (by omega)).trans ((n24 _ (by omega)).trans ((n23 _ (by omega)).trans ((n22 _ (by omega) (by omega) (by omega) (by omega) (by omega) (by omega) (by omega) (by omega) (by omega) (by omega) (by omega) (by omega) (by omega) (by omega) (by omega)).trans ((n21 _ (by omega) (by omega)).trans ((n20 _ (by omega)).trans ((n19 _ (by omega)).trans ((n18 _ (by omega)).trans ((n17 _ (by omega)).trans ((n16 _ (by omega)).trans ((n15 _ (by omega)).trans ((n14 _ (by omega)).trans ((n13 _ (by omega)).trans ((n12 _ (by omega)).trans k11_67))))))))))))))))))))), ((n32 _ (by omega)).trans ((n31 _ (by omega)).trans ((n30 _ (by omega)).trans ((n29 _ (by omega)).trans ((n28 _ (by omega)).trans ((n27 _ (by omega)).trans ((n26 _ (by omega) (by omega) (by omega) (by omega) (by omega) (by omega) (by omega) (by omega) (by omega) (by omega) (by omega) (by omega) (by omega)).trans ((n25 _ (by omega)).trans ((n24 _ (by omega)).trans ((n23 _ (by omega)).trans ((n22 _ (by omega) (by omega) (by omega) (by omega) (by omega) (by omega) (by omega) (by omega) (by omega) (by omega) (by omega) (by omega) (by omega) (by omega) (by omega)).trans ((n21 _ (by omega) (by omega)).trans ((n20 _ (by omega)).trans ((n19 _ (by omega)).trans ((n18 _ (by omega)).trans ((n17 _ (by omega)).trans ((n16 _ (by omega)).trans ((n15 _ (by omega)).trans ((n14 _ (by omega)).trans ((n13 _ (by omega)).trans ((n12 _ (by omega)).trans k11_68))))))))))))))))))))), ((n32 _ (by omega)).trans ((n31 _ (by omega)).trans ((n30 _ (by omega)).trans ((n29 _ (by omega)).trans ((n28 _ (by omega)).trans ((n27 _ (by omega)).trans ((n26 _ (by omega) (by omega) (by omega) (by omega) (by omega) (by omega) (by omega) (by omega) (by omega) (by omega) (by omega) (by omega) (by omega)).trans ((n25 _ (by omega)).trans ((n24 _ (by omega)).trans ((n23 _ (by omega)).trans ((n22 _ (by omega) (by omega) (by omega) (by omega) (by omega) (by omega) (by omega) (by omega) (by omega) (by omega) (by omega) (by omega) (by omega) (by omega) (by omega)).trans ((n21 _ (by omega) (by omega)).trans ((n20 _ (by omega)).trans ((n19 _ (by omega)).trans ((n18 _ (by omega)).trans ((n17 _ (by omega)).trans ((n16 _ (by omega)).trans ((n15 _ (by omega)).trans ((n14 _ (by omega)).trans ((n13 _ (by omega)).trans ((n12 _ (by omega)).trans k11_69))))))))))))))))))))), ((n32 _ (by omega)).trans ((n31 _ (by omega)).trans ((n30 _ (by omega)).trans ((n29 _ (by omega)).trans ((n28 _ (by omega)).trans ((n27 _ (by omega)).trans ((n26 _ (by omega) (by omega) (by omega) (by omega) (by omega) (by omega) (by omega) (by omega) (by omega) (by omega) (by omega) (by omega) (by omega)).trans ((n25 _ (by omega)).trans ((n24 _ (by omega)).trans ((n23 _ (by omega)).trans ((n22 _ (by omega) (by omega) (by omega) (by omega) (by omega) (by omega) (by omega) (by omega) (by omega) (by omega) (by omega) (by omega) (by omega) (by omega) (by omega)).trans ((n21 _ (by omega) (by omega)).trans ((n20 _ (by omega)).trans ((n19 _ (by omega)).trans ((n18 _ (by omega)).trans ((n17 _ (by omega)).trans ((n16 _ (by omega)).trans ((n15 _ (by omega)).trans ((n14 _ (by omega)).trans ((n13 _ (by omega)).trans ((n12 _ (by omega)).trans k11_70))))))))))))))))))))), ((n32 _ (by omega)).trans ((n31 _ (by omega)).trans ((n30 _ (by omega)).trans ((n29 _ (by omega)).trans ((n28 _ (by omega)).trans ((n27 _ (by omega)).trans ((n26 _ (by omega) (by omega) (by omega) (by omega) (by omega) (by omega) (by omega) (by omega) (by omega) (by omega) (by omega) (by omega) (by omega)).trans ((n25 _ (by omega)).trans ((n24 _ (by omega)).trans ((n23 _ (by omega)).trans ((n22 _ (by omega) (by omega) (by omega) (by omega) (by omega) (by omega) (by omega) (by omega) (by omega) (by omega) (by omega) (by omega) (by omega) (by omega) (by omega)).trans ((n21 _ (by omega) (by omega)).trans ((n20 _ (by omega)).trans ((n19 _ (by omega)).trans ((n18 _ (by omega)).trans ((n17 _ (by omega)).trans ((n16 _ (by omega)).trans ((n15 _ (by omega)).trans ((n14 _ (by omega)).trans ((n13 _ (by omega)).trans ((n12 _ (by omega)).trans k11_71))))))))))))))))))))), ((n32 _ (by omega)).trans ((n31 _ (by omega)).trans ((n30 _ (by omega)).trans ((n29 _ (by omega)).trans ((n28 _ (by omega)).trans ((n27 _ (by omega)).trans ((n26 _ (by omega) (by omega) (by omega) (by omega) (by omega) (by omega) (by omega) (by omega) (by omega) (by omega) (by omega) (by omega) (by omega)).trans ((n25 _ (by omega)).trans ((n24 _ (by omega)).trans ((n23 _ (by omega)).trans ((n22 _ (by omega) (by omega) (by omega) (by omega) (by omega) (by omega) (by omega) (by omega) (by omega) (by omega) (by omega) (by omega) (by omega) (by omega) (by omega)).trans ((n21 _ (by omega) (by omega)).trans ((n20 _ (by omega)).trans ((n19 _ (by omega)).trans ((n18 _ (by omega)).trans ((n17 _ (by omega)).trans ((n16 _ (by omega)).trans ((n15 _ (by omega)).trans ((n14 _ (by omega)).trans ((n13 _ (by omega)).trans ((n12 _ (by omega)).trans k11_72))))))))))))))))))))), ((n32 _ (by omega)).trans ((n31 _ (by omega)).trans ((n30 _ (by omega)).trans ((n29 _ (by omega)).trans ((n28 _ (by omega)).trans ((n27 _ (by omega)).trans ((n26 _ (by omega) (by omega) (by omega) (by omega) (by omega) (by omega) (by omega) (by omega) (by omega) (by omega) (by omega) (by omega) (by omega)).trans ((n25 _ (by omega)).trans ((n24 _ (by omega)).trans ((n23 _ (by omega)).trans ((n22 _ (by omega) (by omega) (by omega) (by omega) (by omega) (by omega) (by omega) (by omega) (by omega) (by omega) (by omega) (by omega) (by omega) (by omega) (by omega)).trans ((n21 _ (by omega) (by omega)).trans ((n20 _ (by omega)).trans ((n19 _ (by omega)).trans ((n18 _ (by omega)).trans ((n17 _ (by omega)).trans ((n16 _ (by omega)).trans ((n15 _ (by omega)).trans ((n14 _ (by omega)).trans ((n13 _ (by omega)).trans ((n12 _ (by omega)).trans k11_73))))))))))))))))))))), ((n32 _ (by omega)).trans ((n31 _ (by omega)).trans ((n30 _ (by omega)).trans ((n29 _ (by omega)).trans ((n28 _ (by omega)).trans ((n27 _ (by omega)).trans ((n26 _ (by omega) (by omega) (by omega) (by omega) (by omega) (by omega) (by omega) (by omega) (by omega) (by omega) (by omega) (by omega) (by omega)).trans ((n25 _ (by omega)).trans ((n24 _ (by omega)).trans ((n23 _ (by omega)).trans ((n22 _ (by omega) (by omega) (by omega) (by omega) (by omega) (by omega) (by omega) (by omega) (by omega) (by omega) (by omega) (by omega) (by omega) (by omega) (by omega)).trans ((n21 _ (by omega) (by omega)).trans ((n20 _ (by omega)).trans ((n19 _ (by omega)).trans ((n18 _ (by omega)).trans ((n17 _ (by omega)).trans ((n16 _ (by omega)).trans ((n15 _ (by omega)).trans ((n14 _ (by omega)).trans ((n13 _ (by omega)).trans ((n12 _ (by omega)).trans k11_74))))))))))))))))))))), ((n32 _ (by omega)).trans ((n31 _ (by omega)).trans ((n30 _ (by omega)).trans ((n29 _ (by omega)).trans ((n28 _ (by omega)).trans ((n27 _ (by omega)).trans ((n26 _ (by omega) (by omega) (by omega) (by omega) (by omega) (by omega) (by omega) (by omega) (by omega) (by omega) (by omega) (by omega) (by omega)).trans ((n25 _ (by omega)).trans ((n24 _ (by omega)).trans ((n23 _ (by omega)).trans ((n22 _ (by omega) (by omega) (by omega) (by omega) (by omega) (by omega) (by omega) (by omega) (by omega) (by omega) (by omega) (by omega) (by omega) (by omega) (by omega)).trans ((n21 _ (by omega) (by omega)).trans ((n20 _ (by omega)).trans ((n19 _ (by omega)).trans ((n18 _ (by omega)).trans ((n17 _ (by omega)).trans ((n16 _ (by omega)).trans ((n15 _ (by omega)).trans ((n14 _ (by omega)).trans ((n13 _ (by omega)).trans ((n12 _ (by omega)).trans k11_75))))))))))))))))))))), ((n32 _ (by omega)).trans ((n31 _ (by omega)).trans ((n30 _ (by omega)).trans ((n29 _ (by omega)).trans ((n28 _ (by omega)).trans ((n27 _ (by omega)).trans ((n26 _ (by omega) (by omega) (by omega) (by omega) (by omega) (by omega) (by omega) (by omega) (by omega) (by omega) (by omega) (by omega) (by omega)).trans ((n25 _ (by omega)).trans ((n24 _ (by omega)).trans ((n23 _ (by omega)).trans ((n22 _ (by omega) (by omega) (by omega) (by omega) (by omega) (by omega) (by omega) (by omega) (by omega) (by omega) (by omega) (by omega) (by omega) (by omega) (by omega)).trans ((n21 _ (by omega) (by omega)).trans ((n20 _ (by omega)).trans ((n19 _ (by omega)).trans ((n18 _ (by omega)).trans ((n17 _ (by omega)).trans ((n16 _ (by omega)).trans ((n15 _ (by omega)).trans ((n14 _ (by omega)).trans ((n13 _ (by omega)).trans ((n12 _ (by omega)).trans k11_76))))))))))))))))))))), ((n32 _ (by omega)).trans ((n31 _ (by omega)).trans ((n30 _ (by omega)).trans ((n29 _ (by omega)).trans ((n28 _ (by omega)).trans ((n27 _ (by omega)).trans ((n26 _ (by omega) (by omega) (by omega) (by omega) (by omega) (by omega) (by omega) (by omega) (by omega) (by omega) (by omega) (by omega) (by omega)).trans ((n25 _ (by omega)).trans ((n24 _ (by omega)).trans ((n23 _ (by omega)).trans ((n22 _ (by omega) (by omega) (by omega) (by omega) (by omega) (by omega) (by omega) (by omega) (by omega) (by omega) (by omega) (by omega) (by omega) (by omega) (by omega)).trans ((n21 _ (by omega) (by omega)).trans ((n20 _ (by omega)).trans ((n19 _ (by omega)).trans ((n18 _ (by omega)).trans ((n17 _ (by omega)).trans ((n16 _ (by omega)).trans ((n15 _ (by omega)).trans ((n14 _ (by omega)).trans ((n13 _ (by omega)).trans ((n12 _ (by omega)).trans k11_77))))))))))))))))))))), ((n32 _ (by omega)).trans ((n31 _ (by omega)).trans ((n30 _ (by omega)).trans ((n29 _ (by omega)).trans ((n28 _ (by omega)).trans ((n27 _ (by omega)).trans ((n26 _ (by omega) (by omega) (by omega) (by omega) (by omega) (by omega) (by omega) (by omega) (by omega) (by omega) (by omega) (by omega) (by omega)).trans ((n25 _ (by omega)).trans ((n24 _ (by omega)).trans ((n23 _ (by omega)).trans ((n22 _ (by omega) (by omega) (by omega) (by omega) (by omega) (by omega) (by omega) (by omega) (by omega) (by omega) (by omega) (by omega) (by omega) (by omega) (by omega)).trans ((n21 _ (by omega) (by omega)).trans ((n20 _ (by omega)).trans ((n19 _ (by omega)).trans ((n18 _ (by omega)).trans ((n17 _ (by omega)).trans ((n16 _ (by omega)).trans ((n15 _ (by omega)).trans ((n14 _ (by omega)).trans ((n13 _ (by omega)).trans ((n12 _ (by omega)).trans k11_78))))))))))))))))))))), ((n32 _ (by omega)).trans ((n31 _ (by omega)).trans ((n30 _ (by omega)).trans ((n29 _ (by omega)).trans ((n28 _ (by omega)).trans ((n27 _ (by omega)).trans ((n26 _ (by omega) (by omega) (by omega) (by omega) (by omega) (by omega) (by omega) (by omega) (by omega) (by omega) (by omega) (by omega) (by omega)).trans ((n25 _ (by omega)).trans ((n24 _ (by omega)).trans ((n23 _ (by omega)).trans ((n22 _ (by omega) (by omega) (by omega) (by omega) (by omega) (by omega) (by omega) (by omega) (by omega) (by omega) (by omega) (by omega) (by omega) (by omega) (by omega)).trans ((n21 _ (by omega) (by omega)).trans ((n20 _ (by omega)).trans ((n19 _ (by omega)).trans ((n18 _ (by omega)).trans ((n17 _ (by omega)).trans ((n16 _ (by omega)).trans ((n15 _ (by omega)).trans ((n14 _ (by omega)).trans ((n13 _ (by omega)).trans ((n12 _ (by omega)).trans k11_79))))))))))))))))))))), ((n32 _ (by omega)).trans ((n31 _ (by omega)).trans ((n30 _ (by omega)).trans ((n29 _ (by omega)).trans ((n28 _ (by omega)).trans ((n27 _ (by omega)).trans ((n26 _ (by omega) (by omega) (by omega) (by omega) (by omega) (by omega) (by omega) (by omega) (by omega) (by omega) (by omega) (by omega) (by omega)).trans ((n25 _ (by omega)).trans ((n24 _ (by omega)).trans ((n23 _ (by omega)).trans ((n22 _ (by omega) (by omega) (by omega) (by omega) (by omega) (by omega) (by omega) (by omega) (by omega) (by omega) (by omega) (by omega) (by omega) (by omega) (by omega)).trans ((n21 _ (by omega) (by omega)).trans ((n20 _ (by omega)).trans ((n19 _ (by omega)).trans ((n18 _ (by omega)).trans ((n17 _ (by omega)).trans ((n16 _ (by omega)).trans ((n15 _ (by omega)).trans ((n14 _ (by omega)).trans ((n13 _ (by omega)).trans ((n12 _ (by omega)).trans k11_80))))))))))))))))))))), ((n32 _ (by omega)).trans ((n31 _ (by omega)).trans ((n30 _ (by omega)).trans ((n29 _ (by omega)).trans ((n28 _ (by omega)).trans ((n27 _ (by omega)).trans ((n26 _ (by omega) (by omega) (by omega) (by omega) (by omega) (by omega) (by omega) (by omega) (by omega) (by omega) (by omega) (by omega) (by omega)).trans ((n25 _ (by omega)).trans ((n24 _ (by omega)).trans ((n23 _ (by omega)).trans ((n22 _ (by omega) (by omega) (by omega) (by omega) (by omega) (by omega) (by omega) (by omega) (by omega) (by omega) (by omega) (by omega) (by omega) (by omega) (by omega)).trans ((n21 _ (by omega) (by omega)).trans ((n20 _ (by omega)).trans ((n19 _ (by omega)).trans ((n18 _ (by omega)).trans ((n17 _ (by omega)).trans ((n16 _ (by omega)).trans ((n15 _ (by omega)).trans ((n14 _ (by omega)).trans ((n13 _ (by omega)).trans ((n12 _ (by omega)).trans k11_81))))))))))))))))))))), ((n32 _ (by omega)).trans ((n31 _ (by omega)).trans ((n30 _ (by omega)).trans ((n29 _ (by omega)).trans ((n28 _ (by omega)).trans ((n27 _ (by omega)).trans ((n26 _ (by omega) (by omega) (by omega) (by omega) (by omega) (by omega) (by omega) (by omega) (by omega) (by omega) (by omega) (by omega) (by omega)).trans ((n25 _ (by omega)).trans ((n24 _ (by omega)).trans ((n23 _ (by omega)).trans ((n22 _ (by omega) (by omega) (by omega) (by omega) (by omega) (by omega) (by omega) (by omega) (by omega) (by omega) (by omega) (by omega) (by omega) (by omega) (by omega)).trans ((n21 _ (by omega) (by omega)).trans ((n20 _ (by omega)).trans ((n19 _ (by omega)).trans ((n18 _ (by omega)).trans ((n17 _ (by omega)).trans ((n16 _ (by omega)).trans ((n15 _ (by omega)).trans ((n14 _ (by omega)).trans ((n13 _ (by omega)).trans ((n12 _ (by omega)).trans k11_82))))))))))))))))))))), ((n32 _ (by omega)).trans ((n31 _ (by omega)).trans ((n30 _ (by omega)).trans ((n29 _ (by omega)).trans ((n28 _ (by omega)).trans ((n27 _ (by omega)).trans ((n26 _ (by omega) (by omega) (by omega) (by omega) (by omega) (by omega) (by omega) (by omega) (by omega) (by omega) (by omega) (by omega) (by omega)).trans ((n25 _ (by omega)).trans ((n24 _ (by omega)).trans ((n23 _ (by omega)).trans ((n22 _ (by omega) (by omega) (by omega) (by omega) (by omega) (by omega) (by omega) (by omega) (by omega) (by omega) (by omega) (by omega) (by omega) (by omega) (by omega)).trans ((n21 _ (by omega) (by omega)).trans ((n20 _ (by omega)).trans ((n19 _ (by omega)).trans ((n18 _ (by omega)).trans ((n17 _ (by omega)).trans ((n16 _ (by omega)).trans ((n15 _ (by omega)).trans ((n14 _ (by omega)).trans ((n13 _ (by omega)).trans ((n12 _ (by omega)).trans k11_83))))))))))))))))))))), ((n32 _ (by omega)).trans ((n31 _ (by omega)).trans ((n30 _ (by omega)).trans ((n29 _ (by omega)).trans ((n28 _ (by omega)).trans ((n27 _ (by omega)).trans ((n26 _ (by omega) (by omega) (by omega) (by omega) (by omega) (by omega) (by omega) (by omega) (by omega) (by omega) (by omega) (by omega) (by omega)).trans ((n25 _ (by omega)).trans ((n24 _ (by omega)).trans ((n23 _ (by omega)).trans ((n22 _ (by omega) (by omega) (by omega) (by omega) (by omega) (by omega) (by omega) (by omega) (by omega) (by omega) (by omega) (by omega) (by omega) (by omega) (by omega)).trans ((n21 _ (by omega) (by omega)).trans ((n20 _ (by omega)).trans ((n19 _ (by omega)).trans ((n18 _ (by omega)).trans ((n17 _ (by omega)).trans ((n16 _ (by omega)).trans ((n15 _ (by omega)).trans ((n14 _ (by omega)).trans ((n13 _ (by omega)).trans ((n12 _ (by omega)).trans k11_84))))))))))))))))))))), ((n32 _ (by omega)).trans ((n31 _ (by omega)).trans ((n30 _ (by omega)).trans ((n29 _ (by omega)).trans ((n28 _ (by omega)).trans ((n27 _ (by omega)).trans ((n26 _ (by omega) (by omega) (by omega) (by omega) (by omega) (by omega) (by omega) (by omega) (by omega) (by omega) (by omega) (by omega) (by omega)).trans ((n25 _ (by omega)).trans ((n24 _ (by omega)).trans ((n23 _ (by omega)).trans ((n22 _ (by omega) (by omega) (by omega) (by omega) (by omega) (by omega) (by omega) (by omega) (by omega) (by omega) (by omega) (by omega) (by omega) (by omega) (by omega)).trans ((n21 _ (by omega) (by omega)).trans ((n20 _ (by omega)).trans ((n19 _ (by omega)).trans ((n18 _ (by omega)).trans ((n17 _ (by omega)).trans ((n16 _ (by omega)).trans ((n15 _ (by omega)).trans ((n14 _ (by omega)).trans ((n13 _ (by omega)).trans ((n12 _ (by omega)).trans k11_85))))))))))))))))))))), ((n32 _ (by omega)).trans ((n31 _ (by omega)).trans ((n30 _ (by omega)).trans ((n29 _ (by omega)).trans ((n28 _ (by omega)).trans ((n27 _ (by omega)).trans ((n26 _ (by omega) (by omega) (by omega) (by omega) (by omega) (by omega) (by omega) (by omega) (by omega) (by omega) (by omega) (by omega) (by omega)).trans ((n25 _ (by omega)).trans ((n24 _ (by omega)).trans ((n23 _ (by omega)).trans ((n22 _ (by omega) (by omega) (by omega) (by omega) (by omega) (by omega) (by omega) (by omega) (by omega) (by omega) (by omega) (by omega) (by omega) (by omega) (by omega)).trans ((n21 _ (by omega) (by omega)).trans ((n20 _ (by omega)).trans ((n19 _ (by omega)).trans ((n18 _ (by omega)).trans ((n17 _ (by omega)).trans ((n16 _ (by omega)).trans ((n15 _ (by omega)).trans ((n14 _ (by omega)).trans ((n13 _ (by omega)).trans ((n12 _ (by omega)).trans k11_86))))))))))))))))))))), ((n32 _ (by omega)).trans ((n31 _ (by omega)).trans ((n30 _ (by omega)).trans ((n29 _ (by omega)).trans ((n28 _ (by omega)).trans ((n27 _ (by omega)).trans ((n26 _ (by omega) (by omega) (by omega) (by omega) (by omega) (by omega) (by omega) (by omega) (by omega) (by omega) (by omega) (by omega) (by omega)).trans ((n25 _ (by omega)).trans ((n24 _ (by omega)).trans ((n23 _ (by omega)).trans ((n22 _ (by omega) (by omega) (by omega) (by omega) (by omega) (by omega) (by omega) (by omega) (by omega) (by omega) (by omega) (by omega) (by omega) (by omega) (by omega)).trans ((n21 _ (by omega) (by omega)).trans ((n20 _ (by omega)).trans ((n19 _ (by omega)).trans ((n18 _ (by omega)).trans ((n17 _ (by omega)).trans ((n16 _ (by omega)).trans ((n15 _ (by omega)).trans ((n14 _ (by omega)).trans ((n13 _ (by omega)).trans ((n12 _ (by omega)).trans k11_87))))))))))))))))))))), ((n32 _ (by omega)).trans ((n31 _ (by omega)).trans ((n30 _ (by omega)).trans ((n29 _ (by omega)).trans ((n28 _ (by omega)).trans ((n27 _ (by omega)).trans ((n26 _ (by omega) (by omega) (by omega) (by omega) (by omega) (by omega) (by omega) (by omega) (by omega) (by omega) (by omega) (by omega) (by omega)).trans ((n25 _ (by omega)).trans ((n24 _ (by omega)).trans ((n23 _ (by omega)).trans ((n22 _ (by omega) (by omega) (by omega) (by omega) (by omega) (by omega) (by omega) (by omega) (by omega) (by omega) (by omega) (by omega) (by omega) (by omega) (by omega)).trans ((n21 _ (by omega) (by omega)).trans ((n20 _ (by omega)).trans ((n19 _ (by omega)).trans ((n18 _ (by omega)).trans ((n17 _ (by omega)).trans ((n16 _ (by omega)).trans ((n15 _ (by omega)).trans ((n14 _ (by omega)).trans ((n13 _ (by omega)).trans ((n12 _ (by omega)).trans k11_88))))))))))))))))))))), ((n32 _ (by omega)).trans ((n31 _ (by omega)).trans ((n30 _ (by omega)).trans ((n29 _ (by omega)).trans ((n28 _ (by omega)).trans ((n27 _ (by omega)).trans ((n26 _ (by omega) (by omega) (by omega) (by omega) (by omega) (by omega) (by omega) (by omega) (by omega) (by omega) (by omega) (by omega) (by omega)).trans ((n25 _ (by omega)).trans ((n24 _ (by omega)).trans ((n23 _ (by omega)).trans ((n22 _ (by omega) (by omega) (by omega) (by omega) (by omega) (by omega) (by omega) (by omega) (by omega) (by omega) (by omega) (by omega) (by omega) (by omega) (by omega)).trans ((n21 _ (by omega) (by omega)).trans ((n20 _ (by omega)).trans ((n19 _ (by omega)).trans ((n18 _ (by omega)).trans ((n17 _ (by omega)).trans ((n16 _ (by omega)).trans ((n15 _ (by omega)).trans ((n14 _ (by omega)).trans ((n13 _ (by omega)).trans ((n12 _ (by omega)).trans k11_89))))))))))))))))))))), ((n32 _ (by omega)).trans ((n31 _ (by omega)).trans ((n30 _ (by omega)).trans ((n29 _ (by omega)).trans ((n28 _ (by omega)).trans ((n27 _ (by omega)).trans ((n26 _ (by omega) (by omega) (by omega) (by omega) (by omega) (by omega) (by omega) (by omega) (by omega) (by omega) (by omega) (by omega) (by omega)).trans ((n25 _ (by omega)).trans ((n24 _ (by omega)).trans ((n23 _ (by omega)).trans ((n22 _ (by omega) (by omega) (by omega) (by omega) (by omega) (by omega) (by omega) (by omega) (by omega) (by omega) (by omega) (by omega) (by omega) (by omega) (by omega)).trans ((n21 _ (by omega) (by omega)).trans ((n20 _ (by omega)).trans ((n19 _ (by omega)).trans ((n18 _ (by omega)).trans ((n17 _ (by omega)).trans ((n16 _ (by omega)).trans ((n15 _ (by omega)).trans ((n14 _ (by omega)).trans ((n13 _ (by omega)).trans ((n12 _ (by omega)).trans k11_90))))))))))))))))))))), ((n32 _ (by omega)).trans ((n31 _ (by omega)).trans ((n30 _ (by omega)).trans ((n29 _ (by omega)).trans ((n28 _ (by omega)).trans ((n27 _ (by omega)).trans ((n26 _ (by omega) (by omega) (by omega) (by omega) (by omega) (by omega) (by omega) (by omega) (by omega) (by omega) (by omega) (by omega) (by omega)).trans ((n25 _ (by omega)).trans ((n24 _ (by omega)).trans ((n23 _ (by omega)).trans ((n22 _ (by omega) (by omega) (by omega) (by omega) (by omega) (by omega) (by omega) (by omega) (by omega) (by omega) (by omega) (by omega) (by omega) (by omega) (by omega)).trans ((n21 _ (by omega) (by omega)).trans ((n20 _ (by omega)).trans ((n19 _ (by omega)).trans ((n18 _ (by omega)).trans ((n17 _ (by omega)).trans ((n16 _ (by omega)).trans ((n15 _ (by omega)).trans ((n14 _ (by omega)).trans ((n13 _ (by omega)).trans ((n12 _ (by omega)).trans k11_91))))))))))))))))))))), ((n32 _ (by omega)).trans ((n31 _ (by omega)).trans ((n30 _ (by omega)).trans ((n29 _ (by omega)).trans ((n28 _ (by omega)).trans ((n27 _ (by omega)).trans ((n26 _ (by omega) (by omega) (by omega) (by omega) (by omega) (by omega) (by omega) (by omega) (by omega) (by omega) (by omega) (by omega) (by omega)).trans ((n25 _ (by omega)).trans ((n24 _ (by omega)).trans ((n23 _ (by omega)).trans ((n22 _ (by omega) (by omega) (by omega) (by omega) (by omega) (by omega) (by omega) (by omega) (by omega) (by omega) (by omega) (by omega) (by omega) (by omega) (by omega)).trans ((n21 _ (by omega) (by omega)).trans ((n20 _ (by omega)).trans ((n19 _ (by omega)).trans ((n18 _ (by omega)).trans ((n17 _ (by omega)).trans ((n16 _ (by omega)).trans ((n15 _ (by omega)).trans ((n14 _ (by omega)).trans ((n13 _ (by omega)).trans ((n12 _ (by omega)).trans k11_92))))))))))))))))))))), ((n32 _ (by omega)).trans ((n31 _ (by omega)).trans ((n30 _ (by omega)).trans ((n29 _ (by omega)).trans ((n28 _ (by omega)).trans ((n27 _ (by omega)).trans ((n26 _ (by omega) (by omega) (by omega) (by omega) (by omega) (by omega) (by omega) (by omega) (by omega) (by omega) (by omega) (by omega) (by omega)).trans ((n25 _ (by omega)).trans ((n24 _ (by omega)).trans ((n23 _ (by omega)).trans ((n22 _ (by omega) (by omega) (by omega) (by omega) (by omega) (by omega) (by omega) (by omega) (by omega) (by omega) (by omega) (by omega) (by omega) (by omega) (by omega)).trans ((n21 _ (by omega) (by omega)).trans ((n20 _ (by omega)).trans ((n19 _ (by omega)).trans ((n18 _ (by omega)).trans ((n17 _ (by omega)).trans ((n16 _ (by omega)).trans ((n15 _ (by omega)).trans ((n14 _ (by omega)).trans ((n13 _ (by omega)).trans ((n12 _ (by omega)).trans k11_93))))))))))))))))))))), ((n32 _ (by omega)).trans ((n31 _ (by omega)).trans ((n30 _ (by omega)).trans ((n29 _ (by omega)).trans ((n28 _ (by omega)).trans ((n27 _ (by omega)).trans ((n26 _ (by omega) (by omega) (by omega) (by omega) (by omega) (by omega) (by omega) (by omega) (by omega) (by omega) (by omega) (by omega) (by omega)).trans ((n25 _ (by omega)).trans ((n24 _ (by omega)).trans ((n23 _ (by omega)).trans ((n22 _ (by omega) (by omega) (by omega) (by omega) (by omega) (by omega) (by omega) (by omega) (by omega) (by omega) (by omega) (by omega) (by omega) (by omega) (by omega)).trans ((n21 _ (by omega) (by omega)).trans ((n20 _ (by omega)).trans ((n19 _ (by omega)).trans ((n18 _ (by omega)).trans ((n17 _ (by omega)).trans ((n16 _ (by omega)).trans ((n15 _ (by omega)).trans ((n14 _ (by omega)).trans ((n13 _ (by omega)).trans ((n12 _ (by omega)).trans k11_94))))))))))))))))))))), ((n32 _ (by omega)).trans ((n31 _ (by omega)).trans ((n30 _ (by omega)).trans ((n29 _ (by omega)).trans ((n28 _ (by omega)).trans ((n27 _ (by omega)).trans ((n26 _ (by omega) (by omega) (by omega) (by omega) (by omega) (by omega) (by omega) (by omega) (by omega) (by omega) (by omega) (by omega) (by omega)).trans ((n25 _ (by omega)).trans ((n24 _ (by omega)).trans ((n23 _ (by omega)).trans ((n22 _ (by omega) (by omega) (by omega) (by omega) (by omega) (by omega) (by omega) (by omega) (by omega) (by omega) (by omega) (by omega) (by omega) (by omega) (by omega)).trans ((n21 _ (by omega) (by omega)).trans ((n20 _ (by omega)).trans ((n19 _ (by omega)).trans ((n18 _ (by omega)).trans ((n17 _ (by omega)).trans ((n16 _ (by omega)).trans ((n15 _ (by omega)).trans ((n14 _ (by omega)).trans ((n13 _ (by omega)).trans ((n12 _ (by omega)).trans k11_95))))))))))))))))))))), ((n32 _ (by omega)).trans ((n31 _ (by omega)).trans ((n30 _ (by omega)).trans ((n29 _ (by omega)).trans ((n28 _ (by omega)).trans ((n27 _ (by omega)).trans ((n26 _ (by omega) (by omega) (by omega) (by omega) (by omega) (by omega) (by omega) (by omega) (by omega) (by omega) (by omega) (by omega) (by omega)).trans ((n25 _ (by omega)).trans ((n24 _ (by omega)).trans ((n23 _ (by omega)).trans ((n22 _ (by omega) (by omega) (by omega) (by omega) (by omega) (by omega) (by omega) (by omega) (by omega) (by omega) (by omega) (by omega) (by omega) (by omega) (by omega)).trans ((n21 _ (by omega) (by omega)).trans ((n20 _ (by omega)).trans ((n19 _ (by omega)).trans ((n18 _ (by omega)).trans ((n17 _ (by omega)).trans ((n16 _ (by omega)).trans ((n15 _ (by omega)).trans ((n14 _ (by omega)).trans ((n13 _ (by omega)).trans ((n12 _ (by omega)).trans k11_96))))))))))))))))))))), ((n32 _ (by omega)).trans ((n31 _ (by omega)).trans ((n30 _ (by omega)).trans ((n29 _ (by omega)).trans ((n28 _ (by omega)).trans ((n27 _ (by omega)).trans ((n26 _ (by omega) (by omega) (by omega) (by omega) (by omega) (by omega) (by omega) (by omega) (by omega) (by omega) (by omega) (by omega) (by omega)).trans ((n25 _ (by omega)).trans ((n24 _ (by omega)).trans ((n23 _ (by omega)).trans ((n22 _ (by omega) (by omega) (by omega) (by omega) (by omega) (by omega) (by omega) (by omega) (by omega) (by omega) (by omega) (by omega) (by omega) (by omega) (by omega)).trans ((n21 _ (by omega) (by omega)).trans ((n20 _ (by omega)).trans ((n19 _ (by omega)).trans ((n18 _ (by omega)).trans ((n17 _ (by omega)).trans ((n16 _ (by omega)).trans ((n15 _ (by omega)).trans ((n14 _ (by omega)).trans ((n13 _ (by omega)).trans ((n12 _ (by omega)).trans k11_97))))))))))))))))))))), ((n32 _ (by omega)).trans ((n31 _ (by omega)).trans ((n30 _ (by omega)).trans ((n29 _ (by omega)).trans ((n28 _ (by omega)).trans ((n27 _ (by omega)).trans ((n26 _ (by omega) (by omega) (by omega) (by omega) (by omega) (by omega) (by omega) (by omega) (by omega) (by omega) (by omega) (by omega) (by omega)).trans ((n25 _ (by omega)).trans ((n24 _ (by omega)).trans ((n23 _ (by omega)).trans ((n22 _ (by omega) (by omega) (by omega) (by omega) (by omega) (by omega) (by omega) (by omega) (by omega) (by omega) (by omega) (by omega) (by omega) (by omega) (by omega)).trans ((n21 _ (by omega) (by omega)).trans ((n20 _ (by omega)).trans ((n19 _ (by omega)).trans ((n18 _ (by omega)).trans ((n17 _ (by omega)).trans ((n16 _ (by omega)).trans ((n15 _ (by omega)).trans ((n14 _ (by omega)).trans ((n13 _ (by omega)).trans ((n12 _ (by omega)).trans k11_98))))))))))))))))))))), ((n32 _ (by omega)).trans ((n31 _ (by omega)).trans ((n30 _ (by omega)).trans ((n29 _ (by omega)).trans ((n28 _ (by omega)).trans ((n27 _ (by omega)).trans ((n26 _ (by omega) (by omega) (by omega) (by omega) (by omega) (by omega) (by omega) (by omega) (by omega) (by omega) (by omega) (by omega) (by omega)).trans ((n25 _ (by omega)).trans ((n24 _ (by omega)).trans ((n23 _ (by omega)).trans ((n22 _ (by omega) (by omega) (by omega) (by omega) (by omega) (by omega) (by omega) (by omega) (by omega) (by omega) (by omega) (by omega) (by omega) (by omega) (by omega)).trans ((n21 _ (by omega) (by omega)).trans ((n20 _ (by omega)).trans ((n19 _ (by omega)).trans ((n18 _ (by omega)).trans ((n17 _ (by omega)).trans ((n16 _ (by omega)).trans ((n15 _ (by omega)).trans ((n14 _ (by omega)).trans ((n13 _ (by omega)).trans ((n12 _ (by omega)).trans k11_99))))))))))))))))))))), ((n32 _ (by omega)).trans ((n31 _ (by omega)).trans ((n30 _ (by omega)).trans ((n29 _ (by omega)).trans ((n28 _ (by omega)).trans ((n27 _ (by omega)).trans ((n26 _ (by omega) (by omega) (by omega) (by omega) (by omega) (by omega) (by omega) (by omega) (by omega) (by omega) (by omega) (by omega) (by omega)).trans ((n25 _ (by omega)).trans ((n24 _ (by omega)).trans ((n23 _ (by omega)).trans ((n22 _ (by omega) (by omega) (by omega) (by omega) (by omega) (by omega) (by omega) (by omega) (by omega) (by omega) (by omega) (by omega) (by omega) (by omega) (by omega)).trans ((n21 _ (by omega) (by omega)).trans ((n20 _ (by omega)).trans ((n19 _ (by omega)).trans ((n18 _ (by omega)).trans ((n17 _ (by omega)).trans ((n16 _ (by omega)).trans ((n15 _ (by omega)).trans ((n14 _ (by omega)).trans ((n13 _ (by omega)).trans ((n12 _ (by omega)).trans k11_100))))))))))))))))))))), ((n32 _ (by omega)).trans ((n31 _ (by omega)).trans ((n30 _ (by omega)).trans ((n29 _ (by omega)).trans ((n28 _ (by omega)).trans ((n27 _ (by omega)).trans ((n26 _ (by omega) (by omega) (by omega) (by omega) (by omega) (by omega) (by omega) (by omega) (by omega) (by omega) (by omega) (by omega) (by omega)).trans ((n25 _ (by omega)).trans ((n24 _ (by omega)).trans ((n23 _ (by omega)).trans ((n22 _ (by omega) (by omega) (by omega) (by omega) (by omega) (by omega) (by omega) (by omega) (by omega) (by omega) (by omega) (by omega) (by omega) (by omega) (by omega)).trans ((n21 _ (by omega) (by omega)).trans ((n20 _ (by omega)).trans ((n19 _ (by omega)).trans ((n18 _ (by omega)).trans ((n17 _ (by omega)).trans ((n16 _ (by omega)).trans ((n15 _ (by omega)).trans ((n14 _ (by omega)).trans ((n13 _ (by omega)).trans ((n12 _ (by omega)).trans k11_101))))))))))))))))))))), ((n32 _ (by omega)).trans ((n31 _ (by omega)).trans ((n30 _ (by omega)).trans ((n29 _ (by omega)).trans ((n28 _ (by omega)).trans ((n27 _ (by omega)).trans ((n26 _ (by omega) (by omega) (by omega) (by omega) (by omega) (by omega) (by omega) (by omega) (by omega) (by omega) (by omega) (by omega) (by omega)).trans ((n25 _ (by omega)).trans ((n24 _ (by omega)).trans ((n23 _ (by omega)).trans ((n22 _ (by omega) (by omega) (by omega) (by omega) (by omega) (by omega) (by omega) (by omega) (by omega) (by omega) (by omega) (by omega) (by omega) (by omega) (by omega)).trans ((n21 _ (by omega) (by omega)).trans ((n20 _ (by omega)).trans ((n19 _ (by omega)).trans ((n18 _ (by omega)).trans ((n17 _ (by omega)).trans ((n16 _ (by omega)).trans ((n15 _ (by omega)).trans ((n14 _ (by omega)).trans ((n13 _ (by omega)).trans ((n12 _ (by omega)).trans k11_102))))))))))))))))))))), ((n32 _ (by omega)).trans ((n31 _ (by omega)).trans ((n30 _ (by omega)).trans ((n29 _ (by omega)).trans ((n28 _ (by omega)).trans ((n27 _ (by omega)).trans ((n26 _ (by omega) (by omega) (by omega) (by omega) (by omega) (by omega) (by omega) (by omega) (by omega) (by omega) (by omega) (by omega) (by omega)).trans ((n25 _ (by omega)).trans ((n24 _ (by omega)).trans ((n23 _ (by omega)).trans ((n22 _ (by omega) (by omega) (by omega) (by omega) (by omega) (by omega) (by omega) (by omega) (by omega) (by omega) (by omega) (by omega) (by omega) (by omega) (by omega)).trans ((n21 _ (by omega) (by omega)).trans ((n20 _ (by omega)).trans ((n19 _ (by omega)).trans ((n18 _ (by omega)).trans ((n17 _ (by omega)).trans ((n16 _ (by omega)).trans ((n15 _ (by omega)).trans ((n14 _ (by omega)).trans ((n13 _ (by omega)).trans ((n12 _ (by omega)).trans k11_103))))))))))))))))))))), ((n32 _ (by omega)).trans ((n31 _ (by omega)).trans ((n30 _ (by omega)).trans ((n29 _ (by omega)).trans ((n28 _ (by omega)).trans ((n27 _ (by omega)).trans ((n26 _ (by omega) (by omega) (by omega) (by omega) (by omega) (by omega) (by omega) (by omega) (by omega) (by omega) (by omega) (by omega) (by omega)).trans ((n25 _ (by omega)).trans ((n24 _ (by omega)).trans ((n23 _ (by omega)).trans ((n22 _ (by omega) (by omega) (by omega) (by omega) (by omega) (by omega) (by omega) (by omega) (by omega) (by omega) (by omega) (by omega) (by omega) (by omega) (by omega)).trans ((n21 _ (by omega) (by omega)).trans ((n20 _ (by omega)).trans ((n19 _ (by omega)).trans ((n18 _ (by omega)).trans ((n17 _ (by omega)).trans ((n16 _ (by omega)).trans ((n15 _ (by omega)).trans ((n14 _ (by omega)).trans ((n13 _ (by omega)).trans ((n12 _ (by omega)).trans k11_104))))))))))))))))))))), ((n32 _ (by omega)).trans ((n31 _ (by omega)).trans ((n30 _ (by omega)).trans ((n29 _ (by omega)).trans ((n28 _ (by omega)).trans ((n27 _ (by omega)).trans ((n26 _ (by omega) (by omega) (by omega) (by omega) (by omega) (by omega) (by omega) (by omega) (by omega) (by omega) (by omega) (by omega) (by omega)).trans ((n25 _ (by omega)).trans ((n24 _ (by omega)).trans ((n23 _ (by omega)).trans ((n22 _ (by omega) (by omega) (by omega) (by omega) (by omega) (by omega) (by omega) (by omega) (by omega) (by omega) (by omega) (by omega) (by omega) (by omega) (by omega)).trans ((n21 _ (by omega) (by omega)).trans ((n20 _ (by omega)).trans ((n19 _ (by omega)).trans ((n18 _ (by omega)).trans ((n17 _ (by omega)).trans ((n16 _ (by omega)).trans ((n15 _ (by omega)).trans ((n14 _ (by omega)).trans ((n13 _ (by omega)).trans ((n12 _ (by omega)).trans k11_105))))))))))))))))))))), k32, ((n32 _ (by omega)).trans ((n31 _ (by omega)).trans ((n30 _ (by omega)).trans ((n29 _ (by omega)).trans ((n28 _ (by omega)).trans ((n27 _ (by omega)).trans ((n26 _ (by omega) (by omega) (by omega) (by omega) (by omega) (by omega) (by omega) (by omega) (by omega) (by omega) (by omega) (by omega) (by omega)).trans ((n25 _ (by omega)).trans ((n24 _ (by omega)).trans ((n23 _ (by omega)).trans ((n22 _ (by omega) (by omega) (by omega) (by omega) (by omega) (by omega) (by omega) (by omega) (by omega) (by omega) (by omega) (by omega) (by omega) (by omega) (by omega)).trans ((n21 _ (by omega) (by omega)).trans ((n20 _ (by omega)).trans ((n19 _ (by omega)).trans ((n18 _ (by omega)).trans ((n17 _ (by omega)).trans ((n16 _ (by omega)).trans k15))))))))))))))))), ((n32 _ (by omega)).trans ((n31 _ (by omega)).trans ((n30 _ (by omega)).trans ((n29 _ (by omega)).trans ((n28 _ (by omega)).trans ((n27 _ (by omega)).trans ((n26 _ (by omega) (by omega) (by omega) (by omega) (by omega) (by omega) (by omega) (by omega) (by omega) (by omega) (by omega) (by omega) (by omega)).trans ((n25 _ (by omega)).trans ((n24 _ (by omega)).trans k23_0))))))))), ((n32 _ (by omega)).trans ((n31 _ (by omega)).trans ((n30 _ (by omega)).trans ((n29 _ (by omega)).trans ((n28 _ (by omega)).trans ((n27 _ (by omega)).trans ((n26 _ (by omega) (by omega) (by omega) (by omega) (by omega) (by omega) (by omega) (by omega) (by omega) (by omega) (by omega) (by omega) (by omega)).trans ((n25 _ (by omega)).trans ((n24 _ (by omega)).trans ((n23 _ (by omega)).trans ((n22 _ (by omega) (by omega) (by omega) (by omega) (by omega) (by omega) (by omega) (by omega) (by omega) (by omega) (by omega) (by omega) (by omega) (by omega) (by omega)).trans k21_1))))))))))), ((n32 _ (by omega)).trans ((n31 _ (by omega)).trans ((n30 _ (by omega)).trans ((n29 _ (by omega)).trans ((n28 _ (by omega)).trans ((n27 _ (by omega)).trans ((n26 _ (by omega) (by omega) (by omega) (by omega) (by omega) (by omega) (by omega) (by omega) (by omega) (by omega) (by omega) (by omega) (by omega)).trans ((n25 _ (by omega)).trans ((n24 _ (by omega)).trans ((n23 _ (by omega)).trans k22_0)))))))))), ((n32 _ (by omega)).trans ((n31 _ (by omega)).trans ((n30 _ (by omega)).trans ((n29 _ (by omega)).trans ((n28 _ (by omega)).trans ((n27 _ (by omega)).trans ((n26 _ (by omega) (by omega) (by omega) (by omega) (by omega) (by omega) (by omega) (by omega) (by omega) (by omega) (by omega) (by omega) (by omega)).trans ((n25 _ (by omega)).trans ((n24 _ (by omega)).trans ((n23 _ (by omega)).trans k22_1)))))))))), ((n32 _ (by omega)).trans ((n31 _ (by omega)).trans ((n30 _ (by omega)).trans ((n29 _ (by omega)).trans ((n28 _ (by omega)).trans ((n27 _ (by omega)).trans ((n26 _ (by omega) (by omega) (by omega) (by omega) (by omega) (by omega) (by omega) (by omega) (by omega) (by omega) (by omega) (by omega) (by omega)).trans ((n25 _ (by omega)).trans ((n24 _ (by omega)).trans ((n23 _ (by omega)).trans k22_2)))))))))), ((n32 _ (by omega)).trans ((n31 _ (by omega)).trans ((n30 _ (by omega)).trans ((n29 _ (by omega)).trans ((n28 _ (by omega)).trans ((n27 _ (by omega)).trans ((n26 _ (by omega) (by omega) (by omega) (by omega) (by omega) (by omega) (by omega) (by omega) (by omega) (by omega) (by omega) (by omega) (by omega)).trans ((n25 _ (by omega)).trans ((n24 _ (by omega)).trans ((n23 _ (by omega)).trans k22_3)))))))))), ((n32 _ (by omega)).trans ((n31 _ (by omega)).trans ((n30 _ (by omega)).trans ((n29 _ (by omega)).trans ((n28 _ (by omega)).trans ((n27 _ (by omega)).trans ((n26 _ (by omega) (by omega) (by omega) (by omega) (by omega) (by omega) (by omega) (by omega) (by omega) (by omega) (by omega) (by omega) (by omega)).trans ((n25 _ (by omega)).trans ((n24 _ (by omega)).trans ((n23 _ (by omega)).trans k22_4)))))))))), ((n32 _ (by omega)).trans ((n31 _ (by omega)).trans ((n30 _ (by omega)).trans ((n29 _ (by omega)).trans ((n28 _ (by omega)).trans ((n27 _ (by omega)).trans ((n26 _ (by omega) (by omega) (by omega) (by omega) (by omega) (by omega) (by omega) (by omega) (by omega) (by omega) (by omega) (by omega) (by omega)).trans ((n25 _ (by omega)).trans ((n24 _ (by omega)).trans ((n23 _ (by omega)).trans k22_5)))))))))), ((n32 _ (by omega)).trans ((n31 _ (by omega)).trans ((n30 _ (by omega)).trans ((n29 _ (by omega)).trans ((n28 _ (by omega)).trans ((n27 _ (by omega)).trans ((n26 _ (by omega) (by omega) (by omega) (by omega) (by omega) (by omega) (by omega) (by omega) (by omega) (by omega) (by omega) (by omega) (by omega)).trans ((n25 _ (by omega)).trans ((n24 _ (by omega)).trans ((n23 _ (by omega)).trans k22_6)))))))))), ((n32 _ (by omega)).trans ((n31 _ (by omega)).trans ((n30 _ (by omega)).trans ((n29 _ (by omega)).trans ((n28 _ (by omega)).trans ((n27 _ (by omega)).trans ((n26 _ (by omega) (by omega) (by omega) (by omega) (by omega) (by omega) (by omega) (by omega) (by omega) (by omega) (by omega) (by omega) (by omega)).trans ((n25 _ (by omega)).trans ((n24 _ (by omega)).trans ((n23 _ (by omega)).trans k22_7)))))))))), ((n32 _ (by omega)).trans ((n31 _ (by omega)).trans ((n30 _ (by omega)).trans ((n29 _ (by omega)).trans ((n28 _ (by omega)).trans ((n27 _ (by omega)).trans ((n26 _ (by omega) (by omega) (by omega) (by omega) (by omega) (by omega) (by omega) (by omega) (by omega) (by omega) (by omega) (by omega) (by omega)).trans ((n25 _ (by omega)).trans ((n24 _ (by omega)).trans ((n23 _ (by omega)).trans k22_8)))))))))), ((n32 _ (by omega)).trans ((n31 _ (by omega)).trans ((n30 _ (by omega)).trans ((n29 _ (by omega)).trans ((n28 _ (by omega)).trans ((n27 _ (by omega)).trans ((n26 _ (by omega) (by omega) (by omega) (by omega) (by omega) (by omega) (by omega) (by omega) (by omega) (by omega) (by omega) (by omega) (by omega)).trans ((n25 _ (by omega)).trans ((n24 _ (by omega)).trans ((n23 _ (by omega)).trans k22_9)))))))))), ((n32 _ (by omega)).trans ((n31 _ (by omega)).trans ((n30 _ (by omega)).trans ((n29 _ (by omega)).trans ((n28 _ (by omega)).trans ((n27 _ (by omega)).trans ((n26 _ (by omega) (by omega) (by omega) (by omega) (by omega) (by omega) (by omega) (by omega) (by omega) (by omega) (by omega) (by omega) (by omega)).trans ((n25 _ (by omega)).trans ((n24 _ (by omega)).trans ((n23 _ (by omega)).trans k22_10)))))))))), ((n32 _ (by omega)).trans ((n31 _ (by omega)).trans ((n30 _ (by omega)).trans ((n29 _ (by omega)).trans ((n28 _ (by omega)).trans ((n27 _ (by omega)).trans ((n26 _ (by omega) (by omega) (by omega) (by omega) (by omega) (by omega) (by omega) (by omega) (by omega) (by omega) (by omega) (by omega) (by omega)).trans ((n25 _ (by omega)).trans ((n24 _ (by omega)).trans ((n23 _ (by omega)).trans k22_11)))))))))), ((n32 _ (by omega)).trans ((n31 _ (by omega)).trans ((n30 _ (by omega)).trans ((n29 _ (by omega)).trans ((n28 _ (by omega)).trans ((n27 _ (by omega)).trans ((n26 _ (by omega) (by omega) (by omega) (by omega) (by omega) (by omega) (by omega) (by omega) (by omega) (by omega) (by omega) (by omega) (by omega)).trans ((n25 _ (by omega)).trans ((n24 _ (by omega)).trans ((n23 _ (by omega)).trans k22_12)))))))))), ((n32 _ (by omega)).trans ((n31 _ (by omega)).trans ((n30 _ (by omega)).trans ((n29 _ (by omega)).trans ((n28 _ (by omega)).trans ((n27 _ (by omega)).trans ((n26 _ (by omega) (by omega) (by omega) (by omega) (by omega) (by omega) (by omega) (by omega) (by omega) (by omega) (by omega) (by omega) (by omega)).trans ((n25 _ (by omega)).trans ((n24 _ (by omega)).trans ((n23 _ (by omega)).trans k22_13)))))))))), ((n32 _ (by omega)).trans ((n31 _ (by omega)).trans ((n30 _ (by omega)).trans ((n29 _ (by omega)).trans ((n28 _ (by omega)).trans ((n27 _ (by omega)).trans ((n26 _ (by omega) (by omega) (by omega) (by omega) (by omega) (by omega) (by omega) (by omega) (by omega) (by omega) (by omega) (by omega) (by omega)).trans ((n25 _ (by omega)).trans ((n24 _ (by omega)).trans ((n23 _ (by omega)).trans k22_14)))))))))), ((n32 _ (by omega)).trans ((n31 _ (by omega)).trans ((n30 _ (by omega)).trans ((n29 _ (by omega)).trans k28_0)))), ((n32 _ (by omega)).trans ((n31 _ (by omega)).trans ((n30 _ (by omega)).trans ((n29 _ (by omega)).trans k28_1)))), ((n32 _ (by omega)).trans ((n31 _ (by omega)).trans ((n30 _ (by omega)).trans ((n29 _ (by omega)).trans k28_2)))), ((n32 _ (by omega)).trans ((n31 _ (by omega)).trans ((n30 _ (by omega)).trans ((n29 _ (by omega)).trans k28_3)))), ((n32 _ (by omega)).trans ((n31 _ (by omega)).trans ((n30 _ (by omega)).trans ((n29 _ (by omega)).trans k28_4)))), ((n32 _ (by omega)).trans ((n31 _ (by omega)).trans ((n30 _ (by omega)).trans ((n29 _ (by omega)).trans k28_5)))), ((n32 _ (by omega)).trans ((n31 _ (by omega)).trans ((n30 _ (by omega)).trans ((n29 _ (by omega)).trans k28_6)))), ((n32 _ (by omega)).trans ((n31 _ (by omega)).trans ((n30 _ (by omega)).trans ((n29 _ (by omega)).trans k28_7)))), ((n32 _ (by omega)).trans ((n31 _ (by omega)).trans ((n30 _ (by omega)).trans ((n29 _ (by omega)).trans k28_8)))), ((n32 _ (by omega)).trans ((n31 _ (by omega)).trans ((n30 _ (by omega)).trans ((n29 _ (by omega)).trans k28_9)))), ((n32 _ (by omega)).trans ((n31 _ (by omega)).trans ((n30 _ (by omega)).trans ((n29 _ (by omega)).trans k28_10)))), ((n32 _ (by omega)).trans ((n31 _ (by omega)).trans ((n30 _ (by omega)).trans ((n29 _ (by omega)).trans k28_11)))), ((n32 _ (by omega)).trans ((n31 _ (by omega)).trans ((n30 _ (by omega)).trans ((n29 _ (by omega)).trans k28_12)))), ((n32 _ (by omega)).trans k31_0), ((n32 _ (by omega)).trans k31_1), ((n32 _ (by omega)).trans k31_2), ((n32 _ (by omega)).trans k31_3), ((n32 _ (by omega)).trans k31_4), ((n32 _ (by omega)).trans k31_5), ((n32 _ (by omega)).trans k31_6), ((n32 _ (by omega)).trans k31_7), ((n32 _ (by omega)).trans k31_8), ((n32 _ (by omega)).trans k31_9), ((n32 _ (by omega)).trans k31_10), ((n32 _ (by omega)).trans k31_11), ((n32 _ (by omega)).trans k31_12), (fun q z => ((n32 q (by omega)).trans ((n31 q (by omega)).trans ((n30 q (by omega)).trans ((n29 q (by omega)).trans ((n28 q (by omega)).trans ((n27 q (by omega)).trans ((n26 q (by omega) (by omega) (by omega) (by omega) (by omega) (by omega) (by omega) (by omega) (by omega) (by omega) (by omega) (by omega) (by omega)).trans ((n25 q (by omega)).trans ((n24 q (by omega)).trans ((n23 q (by omega)).trans ((n22 q (by omega) (by omega) (by omega) (by omega) (by omega) (by omega) (by omega) (by omega) (by omega) (by omega) (by omega) (by omega) (by omega) (by omega) (by omega)).trans ((n21 q (by omega) (by omega)).trans ((n20 q (by omega)).trans ((n19 q (by omega)).trans ((n18 q (by omega)).trans ((n17 q (by omega)).trans ((n16 q (by omega)).trans ((n15 q (by omega)).trans ((n14 q (by omega)).trans ((n13 q (by omega)).trans ((n12 q (by omega)).trans ((n11 q (by omega)).trans ((n10 q (by omega)).trans ((n9 q (by omega)).trans ((n8 q (by omega)).trans ((n7 q (by omega)).trans ((n6 q (by omega)).trans ((n5 q (by omega)).trans ((n4 q (by omega)).trans ((n3 q (by omega)).trans ((n2 q (by omega)).trans (n1 q (by omega)))))))))))))))))))))))))))))))))), rfl⟩ (Nat.le_of_ble_eq_true rfl) (Nat.le_of_ble_eq_true rfl)
abbrev P_X10_appendInput (E : KE) (x : Nat)  (hp : Hp) (al : Option Nat) (out : String ⊕ (Int32 × Int32 × (Nat → Int32))) : Option Value → Hp → Option Nat → Prop := fun v0 hp' al' => ∃ u, out = .inr u ∧ v0 = some (.int u.1) ∧ hp' (x + 126) = some (.inr (8, [.ref (x + 127), .int u.2.1])) ∧ hp' (x + 127) = some (.inl (kC E 0, 900, .inl u.2.2)) ∧ (∀ q, q ≠ (x + 126) → q ≠ (x + 127) → hp' q = hp q) ∧ al = al'
def f_X10_appendInput (N : Nat)  (itl : Int32) (itb : Nat → Int32) (a0 : Int32) (a1 : Int32) (a2 : Int32) (a3 : Int32) (a4 : Int32) : Option (String ⊕ (Int32 × Int32 × (Nat → Int32))) :=
  if (itl + 20) ≤ 600 then
    (f_X8_appendWord N itl itb a0).bind fun t1 =>
    (f_X8_appendWord N t1.1 t1.2 a1).bind fun t2 =>
    (f_X8_appendWord N t2.1 t2.2 a2).bind fun t3 =>
    (f_X8_appendWord N t3.1 t3.2 a3).bind fun t4 =>
    (f_X8_appendWord N t4.1 t4.2 a4).bind fun t5 =>
    some (.inr (t5.1, t5.1, t5.2))
  else
    some (.inl "java/lang/IllegalStateException")
set_option maxHeartbeats 4000000 in
set_option maxRecDepth 100000 in
theorem c_X10_appendInput {E : KE} {l : Launch} {hp : Hp} {al : Option Nat} {N : Nat} {x : Nat} {itl : Int32} {itb : Nat → Int32} {a0 : Int32} {a1 : Int32} {a2 : Int32} {a3 : Int32} {a4 : Int32} {out : String ⊕ (Int32 × Int32 × (Nat → Int32))} (g0 : hp x = some (.inr (10, [.ref (x + 126), .ref (x + 128), .ref (x + 1), .ref (x + 3), .ref (x + 16), .ref (x + 18), .ref (x + 124), .ref (x + 125)]))) (g22 : hp (x + 126) = some (.inr (8, [.ref (x + 127), .int itl]))) (g23 : hp (x + 127) = some (.inl (kC E 0, 900, .inl itb)))  (h : f_X10_appendInput N itl itb a0 a1 a2 a3 a4 = some out) : AX E l yX10_appendInput cX10_appendInput 6 (Option.some Jvm.ClassFile.FieldType.int) ⟨6, 1, 6, 82⟩ [.ref x, .int a0, .int a1, .int a2, .int a3, .int a4] hp al (P_X10_appendInput E x hp al out) (kThr out hp) := by
  refine A_ofX (by decide +kernel) (Nat.le_of_ble_eq_true rfl) ?_
  intro p e s m args below meth c X hr htb
  have X : CX E p l s m args meth c "DiceAudit" cX10_appendInput 6 := X
  refine A_L (L' := [(0, .ref x), (1, .int a0), (2, .int a1), (3, .int a2), (4, .int a3), (5, .int a4)]) rfl ?_
  unfold f_X10_appendInput at h
  refine A_aload_n X dX10_appendInput_0 0 rfl ?_
  refine A_get X dX10_appendInput_1 kcl_X10 0 (by decide) kw_651 g0 rfl ?_
  refine A_get X dX10_appendInput_4 kcl_X8 1 (by decide) kw_43 g22 rfl ?_
  refine A_bipush (v := 20) X dX10_appendInput_7 (by decide) ?_
  refine A_iadd X dX10_appendInput_9 ?_
  refine A_sipush (v := 600) X dX10_appendInput_10 (by decide) ?_
  refine A_icmp_le (tgt := 26) X dX10_appendInput_13 h (by decide) (fun hc h => ?_) (fun hc h => ?_)
  · refine A_aload_n X dX10_appendInput_26 0 rfl ?_
    refine A_get X dX10_appendInput_27 kcl_X10 0 (by decide) kw_651 g0 rfl ?_
    refine A_iload_n X dX10_appendInput_30 1 rfl ?_
    obtain ⟨t1, hct1, h⟩ := bind_o h
    refine A_c (k' := 0) (n' := 0) rfl rfl (A_runV (rest := []) X dX10_appendInput_31 (c_X8_appendWord g22 g23  hct1) kY_X8_appendWord kw_911 g22 rfl rfl ⟨(Nat.le_of_ble_eq_true rfl), (Nat.le_of_ble_eq_true rfl), (Nat.le_of_ble_eq_true rfl), (Nat.le_of_ble_eq_true rfl)⟩ rfl (Nat.le_of_ble_eq_true rfl)) (fun v9 hp1 al9 hP => ?_)
    obtain ⟨rfl, k1_0, k1_1, n1, rfl⟩ := hP
    replace k1_0 : hp1 (x + 126) = some (.inr (8, [.ref (x + 127), .int t1.1])) := k1_0
    replace k1_1 : hp1 (x + 127) = some (.inl (kC E 0, 900, .inl t1.2)) := k1_1
    refine A_st (st' := []) rfl ?_
    refine A_aload_n X dX10_appendInput_34 0 rfl ?_
    refine A_get X dX10_appendInput_35 kcl_X10 0 (by decide) kw_651 ((n1 _ (by omega) (by omega)).trans g0) rfl ?_
    refine A_iload_n X dX10_appendInput_38 2 rfl ?_
    obtain ⟨t2, hct2, h⟩ := bind_o h
    refine A_c (k' := 0) (n' := 0) rfl rfl (A_runV (rest := []) X dX10_appendInput_39 (c_X8_appendWord k1_0 k1_1  hct2) kY_X8_appendWord kw_911 k1_0 rfl rfl ⟨(Nat.le_of_ble_eq_true rfl), (Nat.le_of_ble_eq_true rfl), (Nat.le_of_ble_eq_true rfl), (Nat.le_of_ble_eq_true rfl)⟩ rfl (Nat.le_of_ble_eq_true rfl)) (fun v9 hp2 al9 hP => ?_)
    obtain ⟨rfl, k2_0, k2_1, n2, rfl⟩ := hP
    replace k2_0 : hp2 (x + 126) = some (.inr (8, [.ref (x + 127), .int t2.1])) := k2_0
    replace k2_1 : hp2 (x + 127) = some (.inl (kC E 0, 900, .inl t2.2)) := k2_1
    refine A_st (st' := []) rfl ?_
    refine A_aload_n X dX10_appendInput_42 0 rfl ?_
    refine A_get X dX10_appendInput_43 kcl_X10 0 (by decide) kw_651 ((n2 _ (by omega) (by omega)).trans ((n1 _ (by omega) (by omega)).trans g0)) rfl ?_
    refine A_iload_n X dX10_appendInput_46 3 rfl ?_
    obtain ⟨t3, hct3, h⟩ := bind_o h
    refine A_c (k' := 0) (n' := 0) rfl rfl (A_runV (rest := []) X dX10_appendInput_47 (c_X8_appendWord k2_0 k2_1  hct3) kY_X8_appendWord kw_911 k2_0 rfl rfl ⟨(Nat.le_of_ble_eq_true rfl), (Nat.le_of_ble_eq_true rfl), (Nat.le_of_ble_eq_true rfl), (Nat.le_of_ble_eq_true rfl)⟩ rfl (Nat.le_of_ble_eq_true rfl)) (fun v9 hp3 al9 hP => ?_)
    obtain ⟨rfl, k3_0, k3_1, n3, rfl⟩ := hP
    replace k3_0 : hp3 (x + 126) = some (.inr (8, [.ref (x + 127), .int t3.1])) := k3_0
    replace k3_1 : hp3 (x + 127) = some (.inl (kC E 0, 900, .inl t3.2)) := k3_1
    refine A_st (st' := []) rfl ?_
    refine A_aload_n X dX10_appendInput_50 0 rfl ?_
    refine A_get X dX10_appendInput_51 kcl_X10 0 (by decide) kw_651 ((n3 _ (by omega) (by omega)).trans ((n2 _ (by omega) (by omega)).trans ((n1 _ (by omega) (by omega)).trans g0))) rfl ?_
    refine A_iload X dX10_appendInput_54 4 rfl ?_
    obtain ⟨t4, hct4, h⟩ := bind_o h
    refine A_c (k' := 0) (n' := 0) rfl rfl (A_runV (rest := []) X dX10_appendInput_56 (c_X8_appendWord k3_0 k3_1  hct4) kY_X8_appendWord kw_911 k3_0 rfl rfl ⟨(Nat.le_of_ble_eq_true rfl), (Nat.le_of_ble_eq_true rfl), (Nat.le_of_ble_eq_true rfl), (Nat.le_of_ble_eq_true rfl)⟩ rfl (Nat.le_of_ble_eq_true rfl)) (fun v9 hp4 al9 hP => ?_)
    obtain ⟨rfl, k4_0, k4_1, n4, rfl⟩ := hP
    replace k4_0 : hp4 (x + 126) = some (.inr (8, [.ref (x + 127), .int t4.1])) := k4_0
    replace k4_1 : hp4 (x + 127) = some (.inl (kC E 0, 900, .inl t4.2)) := k4_1
    refine A_st (st' := []) rfl ?_
    refine A_aload_n X dX10_appendInput_59 0 rfl ?_
    refine A_get X dX10_appendInput_60 kcl_X10 0 (by decide) kw_651 ((n4 _ (by omega) (by omega)).trans ((n3 _ (by omega) (by omega)).trans ((n2 _ (by omega) (by omega)).trans ((n1 _ (by omega) (by omega)).trans g0)))) rfl ?_
    refine A_iload X dX10_appendInput_63 5 rfl ?_
    obtain ⟨t5, hct5, h⟩ := bind_o h
    refine A_c (k' := 0) (n' := 0) rfl rfl (A_runV (rest := []) X dX10_appendInput_65 (c_X8_appendWord k4_0 k4_1  hct5) kY_X8_appendWord kw_911 k4_0 rfl rfl ⟨(Nat.le_of_ble_eq_true rfl), (Nat.le_of_ble_eq_true rfl), (Nat.le_of_ble_eq_true rfl), (Nat.le_of_ble_eq_true rfl)⟩ rfl (Nat.le_of_ble_eq_true rfl)) (fun v9 hp5 al9 hP => ?_)
    obtain ⟨rfl, k5_0, k5_1, n5, rfl⟩ := hP
    replace k5_0 : hp5 (x + 126) = some (.inr (8, [.ref (x + 127), .int t5.1])) := k5_0
    replace k5_1 : hp5 (x + 127) = some (.inl (kC E 0, 900, .inl t5.2)) := k5_1
    refine A_st (st' := []) rfl ?_
    refine A_aload_n X dX10_appendInput_68 0 rfl ?_
    refine A_get X dX10_appendInput_69 kcl_X10 0 (by decide) kw_651 ((n5 _ (by omega) (by omega)).trans ((n4 _ (by omega) (by omega)).trans ((n3 _ (by omega) (by omega)).trans ((n2 _ (by omega) (by omega)).trans ((n1 _ (by omega) (by omega)).trans g0))))) rfl ?_
    refine A_get X dX10_appendInput_72 kcl_X8 1 (by decide) kw_43 k5_0 rfl ?_
    cases h
    exact A_iretX X dX10_appendInput_75 hr ⟨_, rfl, rfl, k5_0, k5_1, (fun q z0 z1 => ((n5 q z0 z1).trans ((n4 q z0 z1).trans ((n3 q z0 z1).trans ((n2 q z0 z1).trans (n1 q z0 z1)))))), rfl⟩ (Nat.le_of_ble_eq_true rfl) (Nat.le_of_ble_eq_true rfl)
  · cases h
    exact A_throwS (names := ["java/lang/RuntimeException", "java/lang/Exception"]) X htb (by decide +kernel) (by decide +kernel) kw_843 kw_23 (List.mem_of_getElem? (i := 16) rfl) xa_X10_86 xg_X10_86 dX10_appendInput_16 dX10_appendInput_19 dX10_appendInput_20 dX10_appendInput_22 dX10_appendInput_25 (Nat.le_of_ble_eq_true rfl) (Nat.le_of_ble_eq_true rfl) (Nat.le_of_ble_eq_true rfl) (Nat.le_of_ble_eq_true rfl) ⟨rfl, rfl⟩ (Nat.le_of_ble_eq_true rfl) (Nat.le_of_ble_eq_true rfl)
abbrev P_X10_truncateInput (E : KE) (x : Nat)  (hp : Hp) (al : Option Nat) (out : String ⊕ (Int32 × Int32)) : Option Value → Hp → Option Nat → Prop := fun v0 hp' al' => ∃ u, out = .inr u ∧ v0 = some (.int u.1) ∧ hp' (x + 126) = some (.inr (8, [.ref (x + 127), .int u.2])) ∧ (∀ q, q ≠ (x + 126) → hp' q = hp q) ∧ al = al'
def f_X10_truncateInput  (itl : Int32) (a0 : Int32) : Option (String ⊕ (Int32 × Int32)) :=
  sbd (f_X10_requireRange a0 0 itl) fun t1 =>
  (f_X8_cutTo itl a0).bind fun t2 =>
  some (.inr (t2, t2))
set_option maxHeartbeats 4000000 in
set_option maxRecDepth 100000 in
theorem c_X10_truncateInput {E : KE} {l : Launch} {hp : Hp} {al : Option Nat} {x : Nat} {itl : Int32} {a0 : Int32} {out : String ⊕ (Int32 × Int32)} (g0 : hp x = some (.inr (10, [.ref (x + 126), .ref (x + 128), .ref (x + 1), .ref (x + 3), .ref (x + 16), .ref (x + 18), .ref (x + 124), .ref (x + 125)]))) (g22 : hp (x + 126) = some (.inr (8, [.ref (x + 127), .int itl])))  (h : f_X10_truncateInput itl a0 = some out) : AX E l yX10_truncateInput cX10_truncateInput 2 (Option.some Jvm.ClassFile.FieldType.int) ⟨7, 1, 6, 104⟩ [.ref x, .int a0] hp al (P_X10_truncateInput E x hp al out) (kThr out hp) := by
  refine A_ofX (by decide +kernel) (Nat.le_of_ble_eq_true rfl) ?_
  intro p e s m args below meth c X hr htb
  have X : CX E p l s m args meth c "DiceAudit" cX10_truncateInput 2 := X
  refine A_L (L' := [(0, .ref x), (1, .int a0)]) rfl ?_
  unfold f_X10_truncateInput at h
  refine A_iload_n X dX10_truncateInput_0 1 rfl ?_
  refine A_iconst (v := 0) X dX10_truncateInput_1 (by decide) ?_
  refine A_aload_n X dX10_truncateInput_2 0 rfl ?_
  refine A_get X dX10_truncateInput_3 kcl_X10 0 (by decide) kw_651 g0 rfl ?_
  refine A_get X dX10_truncateInput_6 kcl_X8 1 (by decide) kw_43 g22 rfl ?_
  rcases sbd_o h with ⟨c9, hc9, rfl⟩ | ⟨t1, hct1, h⟩
  · exact A_cX (k' := 1) (n' := 6) rfl rfl (A_runSX (rest := []) X dX10_truncateInput_9 (c_X10_requireRange   hc9) kY_X10_requireRange kw_923 ⟨(Nat.le_of_ble_eq_true rfl), (Nat.le_of_ble_eq_true rfl), (Nat.le_of_ble_eq_true rfl), (Nat.le_of_ble_eq_true rfl)⟩ rfl (Nat.le_of_ble_eq_true rfl)) (fun C hp1 hP => by obtain ⟨hC, rfl⟩ := hP; cases hC; exact A_out X htb ⟨rfl, rfl⟩ (Nat.le_of_ble_eq_true rfl) (Nat.le_of_ble_eq_true rfl)) (fun v hp1 al1 hP => by obtain ⟨u, hu, _⟩ := hP; cases hu)
  refine A_cX (k' := 1) (n' := 6) rfl rfl (A_runSX (rest := []) X dX10_truncateInput_9 (c_X10_requireRange   hct1) kY_X10_requireRange kw_923 ⟨(Nat.le_of_ble_eq_true rfl), (Nat.le_of_ble_eq_true rfl), (Nat.le_of_ble_eq_true rfl), (Nat.le_of_ble_eq_true rfl)⟩ rfl (Nat.le_of_ble_eq_true rfl)) (fun C hp1 hP => by obtain ⟨hC, _⟩ := hP; cases hC) (fun v9 hp1 al9 hP => ?_)
  obtain ⟨u9, hu9, rfl, rfl, rfl⟩ := hP
  cases hu9
  refine A_st (st' := []) rfl ?_
  refine A_aload_n X dX10_truncateInput_12 0 rfl ?_
  refine A_get X dX10_truncateInput_13 kcl_X10 0 (by decide) kw_651 g0 rfl ?_
  refine A_iload_n X dX10_truncateInput_16 1 rfl ?_
  obtain ⟨t2, hct2, h⟩ := bind_o h
  refine A_c (k' := 1) (n' := 6) rfl rfl (A_runV (rest := []) X dX10_truncateInput_17 (c_X8_cutTo g22  hct2) kY_X8_cutTo kw_618 g22 rfl rfl ⟨(Nat.le_of_ble_eq_true rfl), (Nat.le_of_ble_eq_true rfl), (Nat.le_of_ble_eq_true rfl), (Nat.le_of_ble_eq_true rfl)⟩ rfl (Nat.le_of_ble_eq_true rfl)) (fun v9 hp1 al9 hP => ?_)
  obtain ⟨rfl, k1_0, n1, rfl⟩ := hP
  replace k1_0 : hp1 (x + 126) = some (.inr (8, [.ref (x + 127), .int t2])) := k1_0
  refine A_st (st' := []) rfl ?_
  refine A_aload_n X dX10_truncateInput_20 0 rfl ?_
  refine A_get X dX10_truncateInput_21 kcl_X10 0 (by decide) kw_651 ((n1 _ (by omega)).trans g0) rfl ?_
  refine A_get X dX10_truncateInput_24 kcl_X8 1 (by decide) kw_43 k1_0 rfl ?_
  cases h
  exact A_iretX X dX10_truncateInput_27 hr ⟨_, rfl, rfl, k1_0, (fun q z0 => (n1 q z0)), rfl⟩ (Nat.le_of_ble_eq_true rfl) (Nat.le_of_ble_eq_true rfl)
abbrev P_X10_load (E : KE) (x : Nat) (v : Nat)  (hp : Hp) (al : Option Nat) (out : String ⊕ (Int32 × Int32 × Int32 × Int32 × Int32 × (Nat → Int32) × (Nat → Int32) × Int32 × (Nat → Int32) × (Nat → Int32) × Int32 × (Nat → Int32) × (Nat → Int32) × Int32 × (Nat → Int32) × (Nat → Int32) × Int32 × Int32 × Int32 × Int32 × Int32 × Int32 × Int32 × Int32 × Int32 × (Nat → Int32) × (Nat → Int32) × Int32 × (Nat → Int32) × (Nat → Int32) × Int32 × (Nat → Int32) × (Nat → Int32) × Int32 × (Nat → Int32) × (Nat → Int32) × Int32 × Int32 × Int32 × Int32 × Int32 × Int32 × Int32 × Int32 × (Nat → Int32) × (Nat → Int32) × Int32 × (Nat → Int32) × (Nat → Int32) × Int32 × (Nat → Int32) × (Nat → Int32) × Int32 × (Nat → Int32) × (Nat → Int32))) : Option Value → Hp → Option Nat → Prop := fun v0 hp' al' => ∃ u, out = .inr u ∧ v0 = some (.int u.1) ∧ hp' (x + 3) = some (.inr (2, [.ref (x + 4), .ref (x + 7), .ref (x + 10), .ref (x + 13), .int u.2.1, .int u.2.2.1, .int u.2.2.2.1])) ∧ hp' (x + 4) = some (.inr (0, [.ref (x + 5), .ref (x + 6), .int u.2.2.2.2.1])) ∧ hp' (x + 5) = some (.inl (kC E 0, 6, .inl u.2.2.2.2.2.1)) ∧ hp' (x + 6) = some (.inl (kC E 0, 72, .inl u.2.2.2.2.2.2.1)) ∧ hp' (x + 7) = some (.inr (7, [.ref (x + 8), .ref (x + 9), .int u.2.2.2.2.2.2.2.1])) ∧ hp' (x + 8) = some (.inl (kC E 0, 6, .inl u.2.2.2.2.2.2.2.2.1)) ∧ hp' (x + 9) = some (.inl (kC E 0, 24, .inl u.2.2.2.2.2.2.2.2.2.1)) ∧ hp' (x + 10) = some (.inr (4, [.ref (x + 11), .ref (x + 12), .int u.2.2.2.2.2.2.2.2.2.2.1])) ∧ hp' (x + 11) = some (.inl (kC E 0, 300, .inl u.2.2.2.2.2.2.2.2.2.2.2.1)) ∧ hp' (x + 12) = some (.inl (kC E 0, 432, .inl u.2.2.2.2.2.2.2.2.2.2.2.2.1)) ∧ hp' (x + 13) = some (.inr (6, [.ref (x + 14), .ref (x + 15), .int u.2.2.2.2.2.2.2.2.2.2.2.2.2.1])) ∧ hp' (x + 14) = some (.inl (kC E 0, 36, .inl u.2.2.2.2.2.2.2.2.2.2.2.2.2.2.1)) ∧ hp' (x + 15) = some (.inl (kC E 0, 36, .inl u.2.2.2.2.2.2.2.2.2.2.2.2.2.2.2.1)) ∧ hp' (x + 18) = some (.inr (3, [.ref (x + 19), .int u.2.2.2.2.2.2.2.2.2.2.2.2.2.2.2.2.1, .int u.2.2.2.2.2.2.2.2.2.2.2.2.2.2.2.2.2.1])) ∧ hp' (x + 126) = some (.inr (8, [.ref (x + 127), .int u.2.2.2.2.2.2.2.2.2.2.2.2.2.2.2.2.2.2.1])) ∧ hp' (x + 128) = some (.inr (5, [.ref (x + 126), .ref (x + 142), .ref (x + 129), .int u.2.2.2.2.2.2.2.2.2.2.2.2.2.2.2.2.2.2.2.1, .int u.2.2.2.2.2.2.2.2.2.2.2.2.2.2.2.2.2.2.2.2.1])) ∧ hp' (x + 129) = some (.inr (2, [.ref (x + 130), .ref (x + 133), .ref (x + 136), .ref (x + 139), .int u.2.2.2.2.2.2.2.2.2.2.2.2.2.2.2.2.2.2.2.2.2.1, .int u.2.2.2.2.2.2.2.2.2.2.2.2.2.2.2.2.2.2.2.2.2.2.1, .int u.2.2.2.2.2.2.2.2.2.2.2.2.2.2.2.2.2.2.2.2.2.2.2.1])) ∧ hp' (x + 130) = some (.inr (0, [.ref (x + 131), .ref (x + 132), .int u.2.2.2.2.2.2.2.2.2.2.2.2.2.2.2.2.2.2.2.2.2.2.2.2.1])) ∧ hp' (x + 131) = some (.inl (kC E 0, 6, .inl u.2.2.2.2.2.2.2.2.2.2.2.2.2.2.2.2.2.2.2.2.2.2.2.2.2.1)) ∧ hp' (x + 132) = some (.inl (kC E 0, 72, .inl u.2.2.2.2.2.2.2.2.2.2.2.2.2.2.2.2.2.2.2.2.2.2.2.2.2.2.1)) ∧ hp' (x + 133) = some (.inr (7, [.ref (x + 134), .ref (x + 135), .int u.2.2.2.2.2.2.2.2.2.2.2.2.2.2.2.2.2.2.2.2.2.2.2.2.2.2.2.1])) ∧ hp' (x + 134) = some (.inl (kC E 0, 6, .inl u.2.2.2.2.2.2.2.2.2.2.2.2.2.2.2.2.2.2.2.2.2.2.2.2.2.2.2.2.1)) ∧ hp' (x + 135) = some (.inl (kC E 0, 24, .inl u.2.2.2.2.2.2.2.2.2.2.2.2.2.2.2.2.2.2.2.2.2.2.2.2.2.2.2.2.2.1)) ∧ hp' (x + 136) = some (.inr (4, [.ref (x + 137), .ref (x + 138), .int u.2.2.2.2.2.2.2.2.2.2.2.2.2.2.2.2.2.2.2.2.2.2.2.2.2.2.2.2.2.2.1])) ∧ hp' (x + 137) = some (.inl (kC E 0, 300, .inl u.2.2.2.2.2.2.2.2.2.2.2.2.2.2.2.2.2.2.2.2.2.2.2.2.2.2.2.2.2.2.2.1)) ∧ hp' (x + 138) = some (.inl (kC E 0, 432, .inl u.2.2.2.2.2.2.2.2.2.2.2.2.2.2.2.2.2.2.2.2.2.2.2.2.2.2.2.2.2.2.2.2.1)) ∧ hp' (x + 139) = some (.inr (6, [.ref (x + 140), .ref (x + 141), .int u.2.2.2.2.2.2.2.2.2.2.2.2.2.2.2.2.2.2.2.2.2.2.2.2.2.2.2.2.2.2.2.2.2.1])) ∧ hp' (x + 140) = some (.inl (kC E 0, 36, .inl u.2.2.2.2.2.2.2.2.2.2.2.2.2.2.2.2.2.2.2.2.2.2.2.2.2.2.2.2.2.2.2.2.2.2.1)) ∧ hp' (x + 141) = some (.inl (kC E 0, 36, .inl u.2.2.2.2.2.2.2.2.2.2.2.2.2.2.2.2.2.2.2.2.2.2.2.2.2.2.2.2.2.2.2.2.2.2.2.1)) ∧ hp' (x + 142) = some (.inr (9, [.ref (x + 126), .int u.2.2.2.2.2.2.2.2.2.2.2.2.2.2.2.2.2.2.2.2.2.2.2.2.2.2.2.2.2.2.2.2.2.2.2.2.1, .int u.2.2.2.2.2.2.2.2.2.2.2.2.2.2.2.2.2.2.2.2.2.2.2.2.2.2.2.2.2.2.2.2.2.2.2.2.2.1, .int u.2.2.2.2.2.2.2.2.2.2.2.2.2.2.2.2.2.2.2.2.2.2.2.2.2.2.2.2.2.2.2.2.2.2.2.2.2.2.1, .int u.2.2.2.2.2.2.2.2.2.2.2.2.2.2.2.2.2.2.2.2.2.2.2.2.2.2.2.2.2.2.2.2.2.2.2.2.2.2.2.1])) ∧ hp' v = some (.inr (2, [.ref (v + 1), .ref (v + 4), .ref (v + 7), .ref (v + 10), .int u.2.2.2.2.2.2.2.2.2.2.2.2.2.2.2.2.2.2.2.2.2.2.2.2.2.2.2.2.2.2.2.2.2.2.2.2.2.2.2.2.1, .int u.2.2.2.2.2.2.2.2.2.2.2.2.2.2.2.2.2.2.2.2.2.2.2.2.2.2.2.2.2.2.2.2.2.2.2.2.2.2.2.2.2.1, .int u.2.2.2.2.2.2.2.2.2.2.2.2.2.2.2.2.2.2.2.2.2.2.2.2.2.2.2.2.2.2.2.2.2.2.2.2.2.2.2.2.2.2.1])) ∧ hp' (v + 1) = some (.inr (0, [.ref (v + 2), .ref (v + 3), .int u.2.2.2.2.2.2.2.2.2.2.2.2.2.2.2.2.2.2.2.2.2.2.2.2.2.2.2.2.2.2.2.2.2.2.2.2.2.2.2.2.2.2.2.1])) ∧ hp' (v + 2) = some (.inl (kC E 0, 6, .inl u.2.2.2.2.2.2.2.2.2.2.2.2.2.2.2.2.2.2.2.2.2.2.2.2.2.2.2.2.2.2.2.2.2.2.2.2.2.2.2.2.2.2.2.2.1)) ∧ hp' (v + 3) = some (.inl (kC E 0, 72, .inl u.2.2.2.2.2.2.2.2.2.2.2.2.2.2.2.2.2.2.2.2.2.2.2.2.2.2.2.2.2.2.2.2.2.2.2.2.2.2.2.2.2.2.2.2.2.1)) ∧ hp' (v + 4) = some (.inr (7, [.ref (v + 5), .ref (v + 6), .int u.2.2.2.2.2.2.2.2.2.2.2.2.2.2.2.2.2.2.2.2.2.2.2.2.2.2.2.2.2.2.2.2.2.2.2.2.2.2.2.2.2.2.2.2.2.2.1])) ∧ hp' (v + 5) = some (.inl (kC E 0, 6, .inl u.2.2.2.2.2.2.2.2.2.2.2.2.2.2.2.2.2.2.2.2.2.2.2.2.2.2.2.2.2.2.2.2.2.2.2.2.2.2.2.2.2.2.2.2.2.2.2.1)) ∧ hp' (v + 6) = some (.inl (kC E 0, 24, .inl u.2.2.2.2.2.2.2.2.2.2.2.2.2.2.2.2.2.2.2.2.2.2.2.2.2.2.2.2.2.2.2.2.2.2.2.2.2.2.2.2.2.2.2.2.2.2.2.2.1)) ∧ hp' (v + 7) = some (.inr (4, [.ref (v + 8), .ref (v + 9), .int u.2.2.2.2.2.2.2.2.2.2.2.2.2.2.2.2.2.2.2.2.2.2.2.2.2.2.2.2.2.2.2.2.2.2.2.2.2.2.2.2.2.2.2.2.2.2.2.2.2.1])) ∧ hp' (v + 8) = some (.inl (kC E 0, 300, .inl u.2.2.2.2.2.2.2.2.2.2.2.2.2.2.2.2.2.2.2.2.2.2.2.2.2.2.2.2.2.2.2.2.2.2.2.2.2.2.2.2.2.2.2.2.2.2.2.2.2.2.1)) ∧ hp' (v + 9) = some (.inl (kC E 0, 432, .inl u.2.2.2.2.2.2.2.2.2.2.2.2.2.2.2.2.2.2.2.2.2.2.2.2.2.2.2.2.2.2.2.2.2.2.2.2.2.2.2.2.2.2.2.2.2.2.2.2.2.2.2.1)) ∧ hp' (v + 10) = some (.inr (6, [.ref (v + 11), .ref (v + 12), .int u.2.2.2.2.2.2.2.2.2.2.2.2.2.2.2.2.2.2.2.2.2.2.2.2.2.2.2.2.2.2.2.2.2.2.2.2.2.2.2.2.2.2.2.2.2.2.2.2.2.2.2.2.1])) ∧ hp' (v + 11) = some (.inl (kC E 0, 36, .inl u.2.2.2.2.2.2.2.2.2.2.2.2.2.2.2.2.2.2.2.2.2.2.2.2.2.2.2.2.2.2.2.2.2.2.2.2.2.2.2.2.2.2.2.2.2.2.2.2.2.2.2.2.2.1)) ∧ hp' (v + 12) = some (.inl (kC E 0, 36, .inl u.2.2.2.2.2.2.2.2.2.2.2.2.2.2.2.2.2.2.2.2.2.2.2.2.2.2.2.2.2.2.2.2.2.2.2.2.2.2.2.2.2.2.2.2.2.2.2.2.2.2.2.2.2.2)) ∧ (∀ q, q ≠ (x + 3) → q ≠ (x + 4) → q ≠ (x + 5) → q ≠ (x + 6) → q ≠ (x + 7) → q ≠ (x + 8) → q ≠ (x + 9) → q ≠ (x + 10) → q ≠ (x + 11) → q ≠ (x + 12) → q ≠ (x + 13) → q ≠ (x + 14) → q ≠ (x + 15) → q ≠ (x + 18) → q ≠ (x + 126) → q ≠ (x + 128) → q ≠ (x + 129) → q ≠ (x + 130) → q ≠ (x + 131) → q ≠ (x + 132) → q ≠ (x + 133) → q ≠ (x + 134) → q ≠ (x + 135) → q ≠ (x + 136) → q ≠ (x + 137) → q ≠ (x + 138) → q ≠ (x + 139) → q ≠ (x + 140) → q ≠ (x + 141) → q ≠ (x + 142) → q ≠ v → q ≠ (v + 1) → q ≠ (v + 2) → q ≠ (v + 3) → q ≠ (v + 4) → q ≠ (v + 5) → q ≠ (v + 6) → q ≠ (v + 7) → q ≠ (v + 8) → q ≠ (v + 9) → q ≠ (v + 10) → q ≠ (v + 11) → q ≠ (v + 12) → hp' q = hp q) ∧ al = al'
def f_X10_load (N : Nat) (itb : Nat → Int32) (sd : Int32) (mn : Int32) (th : Int32) (dc : Int32) (fc : Nat → Int32) (dw : Nat → Int32) (pc : Int32) (ln : Nat → Int32) (lt : Nat → Int32) (tc : Int32) (en : Nat → Int32) (fr : Nat → Int32) (oc : Int32) (op : Nat → Int32) (os : Nat → Int32) (nx : Int32) (dp : Int32) (itl : Int32) (ec : Int32) (eo : Int32) (d_sd : Int32) (d_mn : Int32) (d_th : Int32) (d_dc : Int32) (d_fc : Nat → Int32) (d_dw : Nat → Int32) (d_pc : Int32) (d_ln : Nat → Int32) (d_lt : Nat → Int32) (d_tc : Int32) (d_en : Nat → Int32) (d_fr : Nat → Int32) (d_oc : Int32) (d_op : Nat → Int32) (d_os : Nat → Int32) (kd : Int32) (ts : Int32) (te : Int32) (tv : Int32) (v_sd : Int32) (v_mn : Int32) (v_th : Int32) (v_dc : Int32) (v_fc : Nat → Int32) (v_dw : Nat → Int32) (v_pc : Int32) (v_ln : Nat → Int32) (v_lt : Nat → Int32) (v_tc : Int32) (v_en : Nat → Int32) (v_fr : Nat → Int32) (v_oc : Int32) (v_op : Nat → Int32) (v_os : Nat → Int32) : Option (String ⊕ (Int32 × Int32 × Int32 × Int32 × Int32 × (Nat → Int32) × (Nat → Int32) × Int32 × (Nat → Int32) × (Nat → Int32) × Int32 × (Nat → Int32) × (Nat → Int32) × Int32 × (Nat → Int32) × (Nat → Int32) × Int32 × Int32 × Int32 × Int32 × Int32 × Int32 × Int32 × Int32 × Int32 × (Nat → Int32) × (Nat → Int32) × Int32 × (Nat → Int32) × (Nat → Int32) × Int32 × (Nat → Int32) × (Nat → Int32) × Int32 × (Nat → Int32) × (Nat → Int32) × Int32 × Int32 × Int32 × Int32 × Int32 × Int32 × Int32 × Int32 × (Nat → Int32) × (Nat → Int32) × Int32 × (Nat → Int32) × (Nat → Int32) × Int32 × (Nat → Int32) × (Nat → Int32) × Int32 × (Nat → Int32) × (Nat → Int32))) :=
  (f_X5_parse N itl itb ec eo d_sd d_mn d_th d_dc d_fc d_dw d_pc d_ln d_lt d_tc d_en d_fr d_oc d_op d_os kd ts te tv).bind fun t1 =>
  (f_X8_cutTo itl 0).bind fun t2 =>
  if t1.1 = 0 then
    some (.inl "java/lang/IllegalArgumentException")
  else
    (f_X3_remember sd mn th dc fc dw pc ln lt tc en fr oc op os nx dp v_sd v_mn v_th v_dc v_fc v_dw v_pc v_ln v_lt v_tc v_en v_fr v_oc v_op v_os).bind fun t3 =>
    (f_X2_copyFrom t1.2.2.2.1 t1.2.2.2.2.1 t1.2.2.2.2.2.1 t1.2.2.2.2.2.2.1 t1.2.2.2.2.2.2.2.1 t1.2.2.2.2.2.2.2.2.1 t1.2.2.2.2.2.2.2.2.2.1 t1.2.2.2.2.2.2.2.2.2.2.1 t1.2.2.2.2.2.2.2.2.2.2.2.1 t1.2.2.2.2.2.2.2.2.2.2.2.2.1 t1.2.2.2.2.2.2.2.2.2.2.2.2.2.1 t1.2.2.2.2.2.2.2.2.2.2.2.2.2.2.1 t1.2.2.2.2.2.2.2.2.2.2.2.2.2.2.2.1 t1.2.2.2.2.2.2.2.2.2.2.2.2.2.2.2.2.1 t1.2.2.2.2.2.2.2.2.2.2.2.2.2.2.2.2.2.1 sd mn th dc fc dw pc ln lt tc en fr oc op os).bind fun t4 =>
    some (.inr (t4.2.2.2.2.2.2.2.2.2.1, t4.1, t4.2.1, t4.2.2.1, t4.2.2.2.1, t4.2.2.2.2.1, t4.2.2.2.2.2.1, t4.2.2.2.2.2.2.1, t4.2.2.2.2.2.2.2.1, t4.2.2.2.2.2.2.2.2.1, t4.2.2.2.2.2.2.2.2.2.1, t4.2.2.2.2.2.2.2.2.2.2.1, t4.2.2.2.2.2.2.2.2.2.2.2.1, t4.2.2.2.2.2.2.2.2.2.2.2.2.1, t4.2.2.2.2.2.2.2.2.2.2.2.2.2.1, t4.2.2.2.2.2.2.2.2.2.2.2.2.2.2, t3.1, t3.2.1, t2, t1.2.1, t1.2.2.1, t1.2.2.2.1, t1.2.2.2.2.1, t1.2.2.2.2.2.1, t1.2.2.2.2.2.2.1, t1.2.2.2.2.2.2.2.1, t1.2.2.2.2.2.2.2.2.1, t1.2.2.2.2.2.2.2.2.2.1, t1.2.2.2.2.2.2.2.2.2.2.1, t1.2.2.2.2.2.2.2.2.2.2.2.1, t1.2.2.2.2.2.2.2.2.2.2.2.2.1, t1.2.2.2.2.2.2.2.2.2.2.2.2.2.1, t1.2.2.2.2.2.2.2.2.2.2.2.2.2.2.1, t1.2.2.2.2.2.2.2.2.2.2.2.2.2.2.2.1, t1.2.2.2.2.2.2.2.2.2.2.2.2.2.2.2.2.1, t1.2.2.2.2.2.2.2.2.2.2.2.2.2.2.2.2.2.1, t1.2.2.2.2.2.2.2.2.2.2.2.2.2.2.2.2.2.2.1, t1.2.2.2.2.2.2.2.2.2.2.2.2.2.2.2.2.2.2.2.1, t1.2.2.2.2.2.2.2.2.2.2.2.2.2.2.2.2.2.2.2.2.1, t1.2.2.2.2.2.2.2.2.2.2.2.2.2.2.2.2.2.2.2.2.2, t3.2.2.1, t3.2.2.2.1, t3.2.2.2.2.1, t3.2.2.2.2.2.1, t3.2.2.2.2.2.2.1, t3.2.2.2.2.2.2.2.1, t3.2.2.2.2.2.2.2.2.1, t3.2.2.2.2.2.2.2.2.2.1, t3.2.2.2.2.2.2.2.2.2.2.1, t3.2.2.2.2.2.2.2.2.2.2.2.1, t3.2.2.2.2.2.2.2.2.2.2.2.2.1, t3.2.2.2.2.2.2.2.2.2.2.2.2.2.1, t3.2.2.2.2.2.2.2.2.2.2.2.2.2.2.1, t3.2.2.2.2.2.2.2.2.2.2.2.2.2.2.2.1, t3.2.2.2.2.2.2.2.2.2.2.2.2.2.2.2.2))
set_option maxHeartbeats 4000000 in
set_option maxRecDepth 100000 in
theorem c_X10_load {E : KE} {l : Launch} {hp : Hp} {al : Option Nat} {N : Nat} {x : Nat} {v : Nat} {sd : Int32} {mn : Int32} {th : Int32} {dc : Int32} {fc : Nat → Int32} {dw : Nat → Int32} {pc : Int32} {ln : Nat → Int32} {lt : Nat → Int32} {tc : Int32} {en : Nat → Int32} {fr : Nat → Int32} {oc : Int32} {op : Nat → Int32} {os : Nat → Int32} {nx : Int32} {dp : Int32} {rws : Nat → Option Nat} {itl : Int32} {itb : Nat → Int32} {ec : Int32} {eo : Int32} {d_sd : Int32} {d_mn : Int32} {d_th : Int32} {d_dc : Int32} {d_fc : Nat → Int32} {d_dw : Nat → Int32} {d_pc : Int32} {d_ln : Nat → Int32} {d_lt : Nat → Int32} {d_tc : Int32} {d_en : Nat → Int32} {d_fr : Nat → Int32} {d_oc : Int32} {d_op : Nat → Int32} {d_os : Nat → Int32} {kd : Int32} {ts : Int32} {te : Int32} {tv : Int32} {v_sd : Int32} {v_mn : Int32} {v_th : Int32} {v_dc : Int32} {v_fc : Nat → Int32} {v_dw : Nat → Int32} {v_pc : Int32} {v_ln : Nat → Int32} {v_lt : Nat → Int32} {v_tc : Int32} {v_en : Nat → Int32} {v_fr : Nat → Int32} {v_oc : Int32} {v_op : Nat → Int32} {v_os : Nat → Int32}  {out : String ⊕ (Int32 × Int32 × Int32 × Int32 × Int32 × (Nat → Int32) × (Nat → Int32) × Int32 × (Nat → Int32) × (Nat → Int32) × Int32 × (Nat → Int32) × (Nat → Int32) × Int32 × (Nat → Int32) × (Nat → Int32) × Int32 × Int32 × Int32 × Int32 × Int32 × Int32 × Int32 × Int32 × Int32 × (Nat → Int32) × (Nat → Int32) × Int32 × (Nat → Int32) × (Nat → Int32) × Int32 × (Nat → Int32) × (Nat → Int32) × Int32 × (Nat → Int32) × (Nat → Int32) × Int32 × Int32 × Int32 × Int32 × Int32 × Int32 × Int32 × Int32 × (Nat → Int32) × (Nat → Int32) × Int32 × (Nat → Int32) × (Nat → Int32) × Int32 × (Nat → Int32) × (Nat → Int32) × Int32 × (Nat → Int32) × (Nat → Int32))} (g0 : hp x = some (.inr (10, [.ref (x + 126), .ref (x + 128), .ref (x + 1), .ref (x + 3), .ref (x + 16), .ref (x + 18), .ref (x + 124), .ref (x + 125)]))) (g3 : hp (x + 3) = some (.inr (2, [.ref (x + 4), .ref (x + 7), .ref (x + 10), .ref (x + 13), .int sd, .int mn, .int th]))) (g4 : hp (x + 4) = some (.inr (0, [.ref (x + 5), .ref (x + 6), .int dc]))) (g5 : hp (x + 5) = some (.inl (kC E 0, 6, .inl fc))) (g6 : hp (x + 6) = some (.inl (kC E 0, 72, .inl dw))) (g7 : hp (x + 7) = some (.inr (7, [.ref (x + 8), .ref (x + 9), .int pc]))) (g8 : hp (x + 8) = some (.inl (kC E 0, 6, .inl ln))) (g9 : hp (x + 9) = some (.inl (kC E 0, 24, .inl lt))) (g10 : hp (x + 10) = some (.inr (4, [.ref (x + 11), .ref (x + 12), .int tc]))) (g11 : hp (x + 11) = some (.inl (kC E 0, 300, .inl en))) (g12 : hp (x + 12) = some (.inl (kC E 0, 432, .inl fr))) (g13 : hp (x + 13) = some (.inr (6, [.ref (x + 14), .ref (x + 15), .int oc]))) (g14 : hp (x + 14) = some (.inl (kC E 0, 36, .inl op))) (g15 : hp (x + 15) = some (.inl (kC E 0, 36, .inl os))) (g18 : hp (x + 18) = some (.inr (3, [.ref (x + 19), .int nx, .int dp]))) (g19 : hp (x + 19) = some (.inl (kC E 5, 8, .inr (.inr (.inr (.inr rws)))))) (g22 : hp (x + 126) = some (.inr (8, [.ref (x + 127), .int itl]))) (g23 : hp (x + 127) = some (.inl (kC E 0, 900, .inl itb))) (g24 : hp (x + 128) = some (.inr (5, [.ref (x + 126), .ref (x + 142), .ref (x + 129), .int ec, .int eo]))) (g25 : hp (x + 129) = some (.inr (2, [.ref (x + 130), .ref (x + 133), .ref (x + 136), .ref (x + 139), .int d_sd, .int d_mn, .int d_th]))) (g26 : hp (x + 130) = some (.inr (0, [.ref (x + 131), .ref (x + 132), .int d_dc]))) (g27 : hp (x + 131) = some (.inl (kC E 0, 6, .inl d_fc))) (g28 : hp (x + 132) = some (.inl (kC E 0, 72, .inl d_dw))) (g29 : hp (x + 133) = some (.inr (7, [.ref (x + 134), .ref (x + 135), .int d_pc]))) (g30 : hp (x + 134) = some (.inl (kC E 0, 6, .inl d_ln))) (g31 : hp (x + 135) = some (.inl (kC E 0, 24, .inl d_lt))) (g32 : hp (x + 136) = some (.inr (4, [.ref (x + 137), .ref (x + 138), .int d_tc]))) (g33 : hp (x + 137) = some (.inl (kC E 0, 300, .inl d_en))) (g34 : hp (x + 138) = some (.inl (kC E 0, 432, .inl d_fr))) (g35 : hp (x + 139) = some (.inr (6, [.ref (x + 140), .ref (x + 141), .int d_oc]))) (g36 : hp (x + 140) = some (.inl (kC E 0, 36, .inl d_op))) (g37 : hp (x + 141) = some (.inl (kC E 0, 36, .inl d_os))) (g38 : hp (x + 142) = some (.inr (9, [.ref (x + 126), .int kd, .int ts, .int te, .int tv]))) (g39 : hp v = some (.inr (2, [.ref (v + 1), .ref (v + 4), .ref (v + 7), .ref (v + 10), .int v_sd, .int v_mn, .int v_th]))) (g40 : hp (v + 1) = some (.inr (0, [.ref (v + 2), .ref (v + 3), .int v_dc]))) (g41 : hp (v + 2) = some (.inl (kC E 0, 6, .inl v_fc))) (g42 : hp (v + 3) = some (.inl (kC E 0, 72, .inl v_dw))) (g43 : hp (v + 4) = some (.inr (7, [.ref (v + 5), .ref (v + 6), .int v_pc]))) (g44 : hp (v + 5) = some (.inl (kC E 0, 6, .inl v_ln))) (g45 : hp (v + 6) = some (.inl (kC E 0, 24, .inl v_lt))) (g46 : hp (v + 7) = some (.inr (4, [.ref (v + 8), .ref (v + 9), .int v_tc]))) (g47 : hp (v + 8) = some (.inl (kC E 0, 300, .inl v_en))) (g48 : hp (v + 9) = some (.inl (kC E 0, 432, .inl v_fr))) (g49 : hp (v + 10) = some (.inr (6, [.ref (v + 11), .ref (v + 12), .int v_oc]))) (g50 : hp (v + 11) = some (.inl (kC E 0, 36, .inl v_op))) (g51 : hp (v + 12) = some (.inl (kC E 0, 36, .inl v_os))) (hvv : rws (Int32.toNatClampNeg nx) = some v) (hlv : (x + 20) ≤ v) (huv : (v + 13) ≤ (x + 124)) (h : f_X10_load N itb sd mn th dc fc dw pc ln lt tc en fr oc op os nx dp itl ec eo d_sd d_mn d_th d_dc d_fc d_dw d_pc d_ln d_lt d_tc d_en d_fr d_oc d_op d_os kd ts te tv v_sd v_mn v_th v_dc v_fc v_dw v_pc v_ln v_lt v_tc v_en v_fr v_oc v_op v_os = some out) : AX E l yX10_load cX10_load 2 (Option.some Jvm.ClassFile.FieldType.int) ⟨7, 1, 6, 162⟩ [.ref x] hp al (P_X10_load E x v hp al out) (kThr out hp) := by
  refine A_ofX (by decide +kernel) (Nat.le_of_ble_eq_true rfl) ?_
  intro p e s m args below meth c X hr htb
  have X : CX E p l s m args meth c "DiceAudit" cX10_load 2 := X
  refine A_L (L' := [(0, .ref x)]) rfl ?_
  unfold f_X10_load at h
  refine A_aload_n X dX10_load_0 0 rfl ?_
  refine A_get X dX10_load_1 kcl_X10 1 (by decide) kw_652 g0 rfl ?_
  obtain ⟨t1, hct1, h⟩ := bind_o h
  refine A_c (k' := 0) (n' := 0) rfl rfl (A_runV (rest := []) X dX10_load_4 (c_X5_parse g22 g23 g24 g25 g26 g27 g28 g29 g30 g31 g32 g33 g34 g35 g36 g37 g38  hct1) kY_X5_parse kw_324 g24 rfl rfl ⟨(Nat.le_of_ble_eq_true rfl), (Nat.le_of_ble_eq_true rfl), (Nat.le_of_ble_eq_true rfl), (Nat.le_of_ble_eq_true rfl)⟩ rfl (Nat.le_of_ble_eq_true rfl)) (fun v9 hp1 al9 hP => ?_)
  obtain ⟨rfl, zt1, k1_0, k1_1, k1_2, k1_3, k1_4, k1_5, k1_6, k1_7, k1_8, k1_9, k1_10, k1_11, k1_12, k1_13, k1_14, n1, rfl⟩ := hP
  replace k1_0 : hp1 (x + 128) = some (.inr (5, [.ref (x + 126), .ref (x + 142), .ref (x + 129), .int t1.2.1, .int t1.2.2.1])) := k1_0
  replace k1_1 : hp1 (x + 129) = some (.inr (2, [.ref (x + 130), .ref (x + 133), .ref (x + 136), .ref (x + 139), .int t1.2.2.2.1, .int t1.2.2.2.2.1, .int t1.2.2.2.2.2.1])) := k1_1
  replace k1_2 : hp1 (x + 130) = some (.inr (0, [.ref (x + 131), .ref (x + 132), .int t1.2.2.2.2.2.2.1])) := k1_2
  replace k1_3 : hp1 (x + 131) = some (.inl (kC E 0, 6, .inl t1.2.2.2.2.2.2.2.1)) := k1_3
  replace k1_4 : hp1 (x + 132) = some (.inl (kC E 0, 72, .inl t1.2.2.2.2.2.2.2.2.1)) := k1_4
  replace k1_5 : hp1 (x + 133) = some (.inr (7, [.ref (x + 134), .ref (x + 135), .int t1.2.2.2.2.2.2.2.2.2.1])) := k1_5
  replace k1_6 : hp1 (x + 134) = some (.inl (kC E 0, 6, .inl t1.2.2.2.2.2.2.2.2.2.2.1)) := k1_6
  replace k1_7 : hp1 (x + 135) = some (.inl (kC E 0, 24, .inl t1.2.2.2.2.2.2.2.2.2.2.2.1)) := k1_7
  replace k1_8 : hp1 (x + 136) = some (.inr (4, [.ref (x + 137), .ref (x + 138), .int t1.2.2.2.2.2.2.2.2.2.2.2.2.1])) := k1_8
  replace k1_9 : hp1 (x + 137) = some (.inl (kC E 0, 300, .inl t1.2.2.2.2.2.2.2.2.2.2.2.2.2.1)) := k1_9
  replace k1_10 : hp1 (x + 138) = some (.inl (kC E 0, 432, .inl t1.2.2.2.2.2.2.2.2.2.2.2.2.2.2.1)) := k1_10
  replace k1_11 : hp1 (x + 139) = some (.inr (6, [.ref (x + 140), .ref (x + 141), .int t1.2.2.2.2.2.2.2.2.2.2.2.2.2.2.2.1])) := k1_11
  replace k1_12 : hp1 (x + 140) = some (.inl (kC E 0, 36, .inl t1.2.2.2.2.2.2.2.2.2.2.2.2.2.2.2.2.1)) := k1_12
  replace k1_13 : hp1 (x + 141) = some (.inl (kC E 0, 36, .inl t1.2.2.2.2.2.2.2.2.2.2.2.2.2.2.2.2.2.1)) := k1_13
  replace k1_14 : hp1 (x + 142) = some (.inr (9, [.ref (x + 126), .int t1.2.2.2.2.2.2.2.2.2.2.2.2.2.2.2.2.2.2.1, .int t1.2.2.2.2.2.2.2.2.2.2.2.2.2.2.2.2.2.2.2.1, .int t1.2.2.2.2.2.2.2.2.2.2.2.2.2.2.2.2.2.2.2.2.1, .int t1.2.2.2.2.2.2.2.2.2.2.2.2.2.2.2.2.2.2.2.2.2])) := k1_14
  refine A_st (st' := [.int t1.1]) rfl ?_
  refine A_istore_n (L' := [(1, .int t1.1), (0, .ref x)]) X dX10_load_7 rfl (by decide) rfl ?_
  refine A_aload_n X dX10_load_8 1 rfl ?_
  refine A_get X dX10_load_9 kcl_X10 0 (by decide) kw_651 ((n1 _ (by omega) (by omega) (by omega) (by omega) (by omega) (by omega) (by omega) (by omega) (by omega) (by omega) (by omega) (by omega) (by omega) (by omega) (by omega)).trans g0) rfl ?_
  refine A_iconst (v := 0) X dX10_load_12 (by decide) ?_
  obtain ⟨t2, hct2, h⟩ := bind_o h
  refine A_c (k' := 0) (n' := 0) rfl rfl (A_runV (rest := []) X dX10_load_13 (c_X8_cutTo ((n1 _ (by omega) (by omega) (by omega) (by omega) (by omega) (by omega) (by omega) (by omega) (by omega) (by omega) (by omega) (by omega) (by omega) (by omega) (by omega)).trans g22)  hct2) kY_X8_cutTo kw_618 ((n1 _ (by omega) (by omega) (by omega) (by omega) (by omega) (by omega) (by omega) (by omega) (by omega) (by omega) (by omega) (by omega) (by omega) (by omega) (by omega)).trans g22) rfl rfl ⟨(Nat.le_of_ble_eq_true rfl), (Nat.le_of_ble_eq_true rfl), (Nat.le_of_ble_eq_true rfl), (Nat.le_of_ble_eq_true rfl)⟩ rfl (Nat.le_of_ble_eq_true rfl)) (fun v9 hp2 al9 hP => ?_)
  obtain ⟨rfl, k2_0, n2, rfl⟩ := hP
  replace k2_0 : hp2 (x + 126) = some (.inr (8, [.ref (x + 127), .int t2])) := k2_0
  refine A_st (st' := []) rfl ?_
  refine A_iload_n X dX10_load_16 0 rfl ?_
  refine A_if_ne (tgt := 30) X dX10_load_17 h (by decide) (fun hc h => ?_) (fun hc h => ?_)
  · refine A_aload_n X dX10_load_30 1 rfl ?_
    refine A_get X dX10_load_31 kcl_X10 5 (by decide) kw_656 ((n2 _ (by omega)).trans ((n1 _ (by omega) (by omega) (by omega) (by omega) (by omega) (by omega) (by omega) (by omega) (by omega) (by omega) (by omega) (by omega) (by omega) (by omega) (by omega)).trans g0)) rfl ?_
    refine A_aload_n X dX10_load_34 1 rfl ?_
    refine A_get X dX10_load_35 kcl_X10 3 (by decide) kw_654 ((n2 _ (by omega)).trans ((n1 _ (by omega) (by omega) (by omega) (by omega) (by omega) (by omega) (by omega) (by omega) (by omega) (by omega) (by omega) (by omega) (by omega) (by omega) (by omega)).trans g0)) rfl ?_
    obtain ⟨t3, hct3, h⟩ := bind_o h
    refine A_c (k' := 0) (n' := 0) rfl rfl (A_runV (rest := []) X dX10_load_38 (c_X3_remember ((n2 _ (by omega)).trans ((n1 _ (by omega) (by omega) (by omega) (by omega) (by omega) (by omega) (by omega) (by omega) (by omega) (by omega) (by omega) (by omega) (by omega) (by omega) (by omega)).trans g18)) ((n2 _ (by omega)).trans ((n1 _ (by omega) (by omega) (by omega) (by omega) (by omega) (by omega) (by omega) (by omega) (by omega) (by omega) (by omega) (by omega) (by omega) (by omega) (by omega)).trans g19)) ((n2 _ (by omega)).trans ((n1 _ (by omega) (by omega) (by omega) (by omega) (by omega) (by omega) (by omega) (by omega) (by omega) (by omega) (by omega) (by omega) (by omega) (by omega) (by omega)).trans g3)) ((n2 _ (by omega)).trans ((n1 _ (by omega) (by omega) (by omega) (by omega) (by omega) (by omega) (by omega) (by omega) (by omega) (by omega) (by omega) (by omega) (by omega) (by omega) (by omega)).trans g4)) ((n2 _ (by omega)).trans ((n1 _ (by omega) (by omega) (by omega) (by omega) (by omega) (by omega) (by omega) (by omega) (by omega) (by omega) (by omega) (by omega) (by omega) (by omega) (by omega)).trans g5)) ((n2 _ (by omega)).trans ((n1 _ (by omega) (by omega) (by omega) (by omega) (by omega) (by omega) (by omega) (by omega) (by omega) (by omega) (by omega) (by omega) (by omega) (by omega) (by omega)).trans g6)) ((n2 _ (by omega)).trans ((n1 _ (by omega) (by omega) (by omega) (by omega) (by omega) (by omega) (by omega) (by omega) (by omega) (by omega) (by omega) (by omega) (by omega) (by omega) (by omega)).trans g7)) ((n2 _ (by omega)).trans ((n1 _ (by omega) (by omega) (by omega) (by omega) (by omega) (by omega) (by omega) (by omega) (by omega) (by omega) (by omega) (by omega) (by omega) (by omega) (by omega)).trans g8)) ((n2 _ (by omega)).trans ((n1 _ (by omega) (by omega) (by omega) (by omega) (by omega) (by omega) (by omega) (by omega) (by omega) (by omega) (by omega) (by omega) (by omega) (by omega) (by omega)).trans g9)) ((n2 _ (by omega)).trans ((n1 _ (by omega) (by omega) (by omega) (by omega) (by omega) (by omega) (by omega) (by omega) (by omega) (by omega) (by omega) (by omega) (by omega) (by omega) (by omega)).trans g10)) ((n2 _ (by omega)).trans ((n1 _ (by omega) (by omega) (by omega) (by omega) (by omega) (by omega) (by omega) (by omega) (by omega) (by omega) (by omega) (by omega) (by omega) (by omega) (by omega)).trans g11)) ((n2 _ (by omega)).trans ((n1 _ (by omega) (by omega) (by omega) (by omega) (by omega) (by omega) (by omega) (by omega) (by omega) (by omega) (by omega) (by omega) (by omega) (by omega) (by omega)).trans g12)) ((n2 _ (by omega)).trans ((n1 _ (by omega) (by omega) (by omega) (by omega) (by omega) (by omega) (by omega) (by omega) (by omega) (by omega) (by omega) (by omega) (by omega) (by omega) (by omega)).trans g13)) ((n2 _ (by omega)).trans ((n1 _ (by omega) (by omega) (by omega) (by omega) (by omega) (by omega) (by omega) (by omega) (by omega) (by omega) (by omega) (by omega) (by omega) (by omega) (by omega)).trans g14)) ((n2 _ (by omega)).trans ((n1 _ (by omega) (by omega) (by omega) (by omega) (by omega) (by omega) (by omega) (by omega) (by omega) (by omega) (by omega) (by omega) (by omega) (by omega) (by omega)).trans g15)) ((n2 _ (by omega)).trans ((n1 _ (by omega) (by omega) (by omega) (by omega) (by omega) (by omega) (by omega) (by omega) (by omega) (by omega) (by omega) (by omega) (by omega) (by omega) (by omega)).trans g39)) ((n2 _ (by omega)).trans ((n1 _ (by omega) (by omega) (by omega) (by omega) (by omega) (by omega) (by omega) (by omega) (by omega) (by omega) (by omega) (by omega) (by omega) (by omega) (by omega)).trans g40)) ((n2 _ (by omega)).trans ((n1 _ (by omega) (by omega) (by omega) (by omega) (by omega) (by omega) (by omega) (by omega) (by omega) (by omega) (by omega) (by omega) (by omega) (by omega) (by omega)).trans g41)) ((n2 _ (by omega)).trans ((n1 _ (by omega) (by omega) (by omega) (by omega) (by omega) (by omega) (by omega) (by omega) (by omega) (by omega) (by omega) (by omega) (by omega) (by omega) (by omega)).trans g42)) ((n2 _ (by omega)).trans ((n1 _ (by omega) (by omega) (by omega) (by omega) (by omega) (by omega) (by omega) (by omega) (by omega) (by omega) (by omega) (by omega) (by omega) (by omega) (by omega)).trans g43)) ((n2 _ (by omega)).trans ((n1 _ (by omega) (by omega) (by omega) (by omega) (by omega) (by omega) (by omega) (by omega) (by omega) (by omega) (by omega) (by omega) (by omega) (by omega) (by omega)).trans g44)) ((n2 _ (by omega)).trans ((n1 _ (by omega) (by omega) (by omega) (by omega) (by omega) (by omega) (by omega) (by omega) (by omega) (by omega) (by omega) (by omega) (by omega) (by omega) (by omega)).trans g45)) ((n2 _ (by omega)).trans ((n1 _ (by omega) (by omega) (by omega) (by omega) (by omega) (by omega) (by omega) (by omega) (by omega) (by omega) (by omega) (by omega) (by omega) (by omega) (by omega)).trans g46)) ((n2 _ (by omega)).trans ((n1 _ (by omega) (by omega) (by omega) (by omega) (by omega) (by omega) (by omega) (by omega) (by omega) (by omega) (by omega) (by omega) (by omega) (by omega) (by omega)).trans g47)) ((n2 _ (by omega)).trans ((n1 _ (by omega) (by omega) (by omega) (by omega) (by omega) (by omega) (by omega) (by omega) (by omega) (by omega) (by omega) (by omega) (by omega) (by omega) (by omega)).trans g48)) ((n2 _ (by omega)).trans ((n1 _ (by omega) (by omega) (by omega) (by omega) (by omega) (by omega) (by omega) (by omega) (by omega) (by omega) (by omega) (by omega) (by omega) (by omega) (by omega)).trans g49)) ((n2 _ (by omega)).trans ((n1 _ (by omega) (by omega) (by omega) (by omega) (by omega) (by omega) (by omega) (by omega) (by omega) (by omega) (by omega) (by omega) (by omega) (by omega) (by omega)).trans g50)) ((n2 _ (by omega)).trans ((n1 _ (by omega) (by omega) (by omega) (by omega) (by omega) (by omega) (by omega) (by omega) (by omega) (by omega) (by omega) (by omega) (by omega) (by omega) (by omega)).trans g51)) hvv (by omega) (by omega) (by omega) (by omega) hct3) kY_X3_remember kw_778 ((n2 _ (by omega)).trans ((n1 _ (by omega) (by omega) (by omega) (by omega) (by omega) (by omega) (by omega) (by omega) (by omega) (by omega) (by omega) (by omega) (by omega) (by omega) (by omega)).trans g18)) rfl rfl ⟨(Nat.le_of_ble_eq_true rfl), (Nat.le_of_ble_eq_true rfl), (Nat.le_of_ble_eq_true rfl), (Nat.le_of_ble_eq_true rfl)⟩ rfl (Nat.le_of_ble_eq_true rfl)) (fun v9 hp3 al9 hP => ?_)
    obtain ⟨rfl, k3_0, k3_1, k3_2, k3_3, k3_4, k3_5, k3_6, k3_7, k3_8, k3_9, k3_10, k3_11, k3_12, k3_13, n3, rfl⟩ := hP
    replace k3_0 : hp3 (x + 18) = some (.inr (3, [.ref (x + 19), .int t3.1, .int t3.2.1])) := k3_0
    replace k3_1 : hp3 v = some (.inr (2, [.ref (v + 1), .ref (v + 4), .ref (v + 7), .ref (v + 10), .int t3.2.2.1, .int t3.2.2.2.1, .int t3.2.2.2.2.1])) := k3_1
    replace k3_2 : hp3 (v + 1) = some (.inr (0, [.ref (v + 2), .ref (v + 3), .int t3.2.2.2.2.2.1])) := k3_2
    replace k3_3 : hp3 (v + 2) = some (.inl (kC E 0, 6, .inl t3.2.2.2.2.2.2.1)) := k3_3
    replace k3_4 : hp3 (v + 3) = some (.inl (kC E 0, 72, .inl t3.2.2.2.2.2.2.2.1)) := k3_4
    replace k3_5 : hp3 (v + 4) = some (.inr (7, [.ref (v + 5), .ref (v + 6), .int t3.2.2.2.2.2.2.2.2.1])) := k3_5
    replace k3_6 : hp3 (v + 5) = some (.inl (kC E 0, 6, .inl t3.2.2.2.2.2.2.2.2.2.1)) := k3_6
    replace k3_7 : hp3 (v + 6) = some (.inl (kC E 0, 24, .inl t3.2.2.2.2.2.2.2.2.2.2.1)) := k3_7
    replace k3_8 : hp3 (v + 7) = some (.inr (4, [.ref (v + 8), .ref (v + 9), .int t3.2.2.2.2.2.2.2.2.2.2.2.1])) := k3_8
    replace k3_9 : hp3 (v + 8) = some (.inl (kC E 0, 300, .inl t3.2.2.2.2.2.2.2.2.2.2.2.2.1)) := k3_9
    replace k3_10 : hp3 (v + 9) = some (.inl (kC E 0, 432, .inl t3.2.2.2.2.2.2.2.2.2.2.2.2.2.1)) := k3_10
    replace k3_11 : hp3 (v + 10) = some (.inr (6, [.ref (v + 11), .ref (v + 12), .int t3.2.2.2.2.2.2.2.2.2.2.2.2.2.2.1])) := k3_11
    replace k3_12 : hp3 (v + 11) = some (.inl (kC E 0, 36, .inl t3.2.2.2.2.2.2.2.2.2.2.2.2.2.2.2.1)) := k3_12
    replace k3_13 : hp3 (v + 12) = some (.inl (kC E 0, 36, .inl t3.2.2.2.2.2.2.2.2.2.2.2.2.2.2.2.2)) := k3_13
    refine A_st (st' := []) rfl ?_
    refine A_aload_n X dX10_load_41 1 rfl ?_
    refine A_get X dX10_load_42 kcl_X10 3 (by decide) kw_654 ((n3 _ (by omega) (by omega) (by omega) (by omega) (by omega) (by omega) (by omega) (by omega) (by omega) (by omega) (by omega) (by omega) (by omega) (by omega)).trans ((n2 _ (by omega)).trans ((n1 _ (by omega) (by omega) (by omega) (by omega) (by omega) (by omega) (by omega) (by omega) (by omega) (by omega) (by omega) (by omega) (by omega) (by omega) (by omega)).trans g0))) rfl ?_
    refine A_aload_n X dX10_load_45 1 rfl ?_
    refine A_get X dX10_load_46 kcl_X10 1 (by decide) kw_652 ((n3 _ (by omega) (by omega) (by omega) (by omega) (by omega) (by omega) (by omega) (by omega) (by omega) (by omega) (by omega) (by omega) (by omega) (by omega)).trans ((n2 _ (by omega)).trans ((n1 _ (by omega) (by omega) (by omega) (by omega) (by omega) (by omega) (by omega) (by omega) (by omega) (by omega) (by omega) (by omega) (by omega) (by omega) (by omega)).trans g0))) rfl ?_
    refine A_get X dX10_load_49 kcl_X5 2 (by decide) kw_248 ((n3 _ (by omega) (by omega) (by omega) (by omega) (by omega) (by omega) (by omega) (by omega) (by omega) (by omega) (by omega) (by omega) (by omega) (by omega)).trans ((n2 _ (by omega)).trans k1_0)) rfl ?_
    obtain ⟨t4, hct4, h⟩ := bind_o h
    refine A_c (k' := 0) (n' := 0) rfl rfl (A_runV (rest := []) X dX10_load_52 (c_X2_copyFrom ((n3 _ (by omega) (by omega) (by omega) (by omega) (by omega) (by omega) (by omega) (by omega) (by omega) (by omega) (by omega) (by omega) (by omega) (by omega)).trans ((n2 _ (by omega)).trans ((n1 _ (by omega) (by omega) (by omega) (by omega) (by omega) (by omega) (by omega) (by omega) (by omega) (by omega) (by omega) (by omega) (by omega) (by omega) (by omega)).trans g3))) ((n3 _ (by omega) (by omega) (by omega) (by omega) (by omega) (by omega) (by omega) (by omega) (by omega) (by omega) (by omega) (by omega) (by omega) (by omega)).trans ((n2 _ (by omega)).trans ((n1 _ (by omega) (by omega) (by omega) (by omega) (by omega) (by omega) (by omega) (by omega) (by omega) (by omega) (by omega) (by omega) (by omega) (by omega) (by omega)).trans g4))) ((n3 _ (by omega) (by omega) (by omega) (by omega) (by omega) (by omega) (by omega) (by omega) (by omega) (by omega) (by omega) (by omega) (by omega) (by omega)).trans ((n2 _ (by omega)).trans ((n1 _ (by omega) (by omega) (by omega) (by omega) (by omega) (by omega) (by omega) (by omega) (by omega) (by omega) (by omega) (by omega) (by omega) (by omega) (by omega)).trans g5))) ((n3 _ (by omega) (by omega) (by omega) (by omega) (by omega) (by omega) (by omega) (by omega) (by omega) (by omega) (by omega) (by omega) (by omega) (by omega)).trans ((n2 _ (by omega)).trans ((n1 _ (by omega) (by omega) (by omega) (by omega) (by omega) (by omega) (by omega) (by omega) (by omega) (by omega) (by omega) (by omega) (by omega) (by omega) (by omega)).trans g6))) ((n3 _ (by omega) (by omega) (by omega) (by omega) (by omega) (by omega) (by omega) (by omega) (by omega) (by omega) (by omega) (by omega) (by omega) (by omega)).trans ((n2 _ (by omega)).trans ((n1 _ (by omega) (by omega) (by omega) (by omega) (by omega) (by omega) (by omega) (by omega) (by omega) (by omega) (by omega) (by omega) (by omega) (by omega) (by omega)).trans g7))) ((n3 _ (by omega) (by omega) (by omega) (by omega) (by omega) (by omega) (by omega) (by omega) (by omega) (by omega) (by omega) (by omega) (by omega) (by omega)).trans ((n2 _ (by omega)).trans ((n1 _ (by omega) (by omega) (by omega) (by omega) (by omega) (by omega) (by omega) (by omega) (by omega) (by omega) (by omega) (by omega) (by omega) (by omega) (by omega)).trans g8))) ((n3 _ (by omega) (by omega) (by omega) (by omega) (by omega) (by omega) (by omega) (by omega) (by omega) (by omega) (by omega) (by omega) (by omega) (by omega)).trans ((n2 _ (by omega)).trans ((n1 _ (by omega) (by omega) (by omega) (by omega) (by omega) (by omega) (by omega) (by omega) (by omega) (by omega) (by omega) (by omega) (by omega) (by omega) (by omega)).trans g9))) ((n3 _ (by omega) (by omega) (by omega) (by omega) (by omega) (by omega) (by omega) (by omega) (by omega) (by omega) (by omega) (by omega) (by omega) (by omega)).trans ((n2 _ (by omega)).trans ((n1 _ (by omega) (by omega) (by omega) (by omega) (by omega) (by omega) (by omega) (by omega) (by omega) (by omega) (by omega) (by omega) (by omega) (by omega) (by omega)).trans g10))) ((n3 _ (by omega) (by omega) (by omega) (by omega) (by omega) (by omega) (by omega) (by omega) (by omega) (by omega) (by omega) (by omega) (by omega) (by omega)).trans ((n2 _ (by omega)).trans ((n1 _ (by omega) (by omega) (by omega) (by omega) (by omega) (by omega) (by omega) (by omega) (by omega) (by omega) (by omega) (by omega) (by omega) (by omega) (by omega)).trans g11))) ((n3 _ (by omega) (by omega) (by omega) (by omega) (by omega) (by omega) (by omega) (by omega) (by omega) (by omega) (by omega) (by omega) (by omega) (by omega)).trans ((n2 _ (by omega)).trans ((n1 _ (by omega) (by omega) (by omega) (by omega) (by omega) (by omega) (by omega) (by omega) (by omega) (by omega) (by omega) (by omega) (by omega) (by omega) (by omega)).trans g12))) ((n3 _ (by omega) (by omega) (by omega) (by omega) (by omega) (by omega) (by omega) (by omega) (by omega) (by omega) (by omega) (by omega) (by omega) (by omega)).trans ((n2 _ (by omega)).trans ((n1 _ (by omega) (by omega) (by omega) (by omega) (by omega) (by omega) (by omega) (by omega) (by omega) (by omega) (by omega) (by omega) (by omega) (by omega) (by omega)).trans g13))) ((n3 _ (by omega) (by omega) (by omega) (by omega) (by omega) (by omega) (by omega) (by omega) (by omega) (by omega) (by omega) (by omega) (by omega) (by omega)).trans ((n2 _ (by omega)).trans ((n1 _ (by omega) (by omega) (by omega) (by omega) (by omega) (by omega) (by omega) (by omega) (by omega) (by omega) (by omega) (by omega) (by omega) (by omega) (by omega)).trans g14))) ((n3 _ (by omega) (by omega) (by omega) (by omega) (by omega) (by omega) (by omega) (by omega) (by omega) (by omega) (by omega) (by omega) (by omega) (by omega)).trans ((n2 _ (by omega)).trans ((n1 _ (by omega) (by omega) (by omega) (by omega) (by omega) (by omega) (by omega) (by omega) (by omega) (by omega) (by omega) (by omega) (by omega) (by omega) (by omega)).trans g15))) ((n3 _ (by omega) (by omega) (by omega) (by omega) (by omega) (by omega) (by omega) (by omega) (by omega) (by omega) (by omega) (by omega) (by omega) (by omega)).trans ((n2 _ (by omega)).trans k1_1)) ((n3 _ (by omega) (by omega) (by omega) (by omega) (by omega) (by omega) (by omega) (by omega) (by omega) (by omega) (by omega) (by omega) (by omega) (by omega)).trans ((n2 _ (by omega)).trans k1_2)) ((n3 _ (by omega) (by omega) (by omega) (by omega) (by omega) (by omega) (by omega) (by omega) (by omega) (by omega) (by omega) (by omega) (by omega) (by omega)).trans ((n2 _ (by omega)).trans k1_3)) ((n3 _ (by omega) (by omega) (by omega) (by omega) (by omega) (by omega) (by omega) (by omega) (by omega) (by omega) (by omega) (by omega) (by omega) (by omega)).trans ((n2 _ (by omega)).trans k1_4)) ((n3 _ (by omega) (by omega) (by omega) (by omega) (by omega) (by omega) (by omega) (by omega) (by omega) (by omega) (by omega) (by omega) (by omega) (by omega)).trans ((n2 _ (by omega)).trans k1_5)) ((n3 _ (by omega) (by omega) (by omega) (by omega) (by omega) (by omega) (by omega) (by omega) (by omega) (by omega) (by omega) (by omega) (by omega) (by omega)).trans ((n2 _ (by omega)).trans k1_6)) ((n3 _ (by omega) (by omega) (by omega) (by omega) (by omega) (by omega) (by omega) (by omega) (by omega) (by omega) (by omega) (by omega) (by omega) (by omega)).trans ((n2 _ (by omega)).trans k1_7)) ((n3 _ (by omega) (by omega) (by omega) (by omega) (by omega) (by omega) (by omega) (by omega) (by omega) (by omega) (by omega) (by omega) (by omega) (by omega)).trans ((n2 _ (by omega)).trans k1_8)) ((n3 _ (by omega) (by omega) (by omega) (by omega) (by omega) (by omega) (by omega) (by omega) (by omega) (by omega) (by omega) (by omega) (by omega) (by omega)).trans ((n2 _ (by omega)).trans k1_9)) ((n3 _ (by omega) (by omega) (by omega) (by omega) (by omega) (by omega) (by omega) (by omega) (by omega) (by omega) (by omega) (by omega) (by omega) (by omega)).trans ((n2 _ (by omega)).trans k1_10)) ((n3 _ (by omega) (by omega) (by omega) (by omega) (by omega) (by omega) (by omega) (by omega) (by omega) (by omega) (by omega) (by omega) (by omega) (by omega)).trans ((n2 _ (by omega)).trans k1_11)) ((n3 _ (by omega) (by omega) (by omega) (by omega) (by omega) (by omega) (by omega) (by omega) (by omega) (by omega) (by omega) (by omega) (by omega) (by omega)).trans ((n2 _ (by omega)).trans k1_12)) ((n3 _ (by omega) (by omega) (by omega) (by omega) (by omega) (by omega) (by omega) (by omega) (by omega) (by omega) (by omega) (by omega) (by omega) (by omega)).trans ((n2 _ (by omega)).trans k1_13)) (by omega) hct4) kY_X2_copyFrom kw_622 ((n3 _ (by omega) (by omega) (by omega) (by omega) (by omega) (by omega) (by omega) (by omega) (by omega) (by omega) (by omega) (by omega) (by omega) (by omega)).trans ((n2 _ (by omega)).trans ((n1 _ (by omega) (by omega) (by omega) (by omega) (by omega) (by omega) (by omega) (by omega) (by omega) (by omega) (by omega) (by omega) (by omega) (by omega) (by omega)).trans g3))) rfl rfl ⟨(Nat.le_of_ble_eq_true rfl), (Nat.le_of_ble_eq_true rfl), (Nat.le_of_ble_eq_true rfl), (Nat.le_of_ble_eq_true rfl)⟩ rfl (Nat.le_of_ble_eq_true rfl)) (fun v9 hp4 al9 hP => ?_)
    obtain ⟨rfl, k4_0, k4_1, k4_2, k4_3, k4_4, k4_5, k4_6, k4_7, k4_8, k4_9, k4_10, k4_11, k4_12, n4, rfl⟩ := hP
    replace k4_0 : hp4 (x + 3) = some (.inr (2, [.ref (x + 4), .ref (x + 7), .ref (x + 10), .ref (x + 13), .int t4.1, .int t4.2.1, .int t4.2.2.1])) := k4_0
    replace k4_1 : hp4 (x + 4) = some (.inr (0, [.ref (x + 5), .ref (x + 6), .int t4.2.2.2.1])) := k4_1
    replace k4_2 : hp4 (x + 5) = some (.inl (kC E 0, 6, .inl t4.2.2.2.2.1)) := k4_2
    replace k4_3 : hp4 (x + 6) = some (.inl (kC E 0, 72, .inl t4.2.2.2.2.2.1)) := k4_3
    replace k4_4 : hp4 (x + 7) = some (.inr (7, [.ref (x + 8), .ref (x + 9), .int t4.2.2.2.2.2.2.1])) := k4_4
    replace k4_5 : hp4 (x + 8) = some (.inl (kC E 0, 6, .inl t4.2.2.2.2.2.2.2.1)) := k4_5
    replace k4_6 : hp4 (x + 9) = some (.inl (kC E 0, 24, .inl t4.2.2.2.2.2.2.2.2.1)) := k4_6
    replace k4_7 : hp4 (x + 10) = some (.inr (4, [.ref (x + 11), .ref (x + 12), .int t4.2.2.2.2.2.2.2.2.2.1])) := k4_7
    replace k4_8 : hp4 (x + 11) = some (.inl (kC E 0, 300, .inl t4.2.2.2.2.2.2.2.2.2.2.1)) := k4_8
    replace k4_9 : hp4 (x + 12) = some (.inl (kC E 0, 432, .inl t4.2.2.2.2.2.2.2.2.2.2.2.1)) := k4_9
    replace k4_10 : hp4 (x + 13) = some (.inr (6, [.ref (x + 14), .ref (x + 15), .int t4.2.2.2.2.2.2.2.2.2.2.2.2.1])) := k4_10
    replace k4_11 : hp4 (x + 14) = some (.inl (kC E 0, 36, .inl t4.2.2.2.2.2.2.2.2.2.2.2.2.2.1)) := k4_11
    replace k4_12 : hp4 (x + 15) = some (.inl (kC E 0, 36, .inl t4.2.2.2.2.2.2.2.2.2.2.2.2.2.2)) := k4_12
    refine A_st (st' := []) rfl ?_
    refine A_aload_n X dX10_load_55 1 rfl ?_
    refine A_get X dX10_load_56 kcl_X10 3 (by decide) kw_654 ((n4 _ (by omega) (by omega) (by omega) (by omega) (by omega) (by omega) (by omega) (by omega) (by omega) (by omega) (by omega) (by omega) (by omega)).trans ((n3 _ (by omega) (by omega) (by omega) (by omega) (by omega) (by omega) (by omega) (by omega) (by omega) (by omega) (by omega) (by omega) (by omega) (by omega)).trans ((n2 _ (by omega)).trans ((n1 _ (by omega) (by omega) (by omega) (by omega) (by omega) (by omega) (by omega) (by omega) (by omega) (by omega) (by omega) (by omega) (by omega) (by omega) (by omega)).trans g0)))) rfl ?_
    refine A_get X dX10_load_59 kcl_X2 2 (by decide) kw_148 k4_0 rfl ?_
    refine A_get X dX10_load_62 kcl_X4 2 (by decide) kw_107 k4_7 rfl ?_
    cases h
    exact A_iretX X dX10_load_65 hr ⟨_, rfl, rfl, k4_0, k4_1, k4_2, k4_3, k4_4, k4_5, k4_6, k4_7, k4_8, k4_9, k4_10, k4_11, k4_12, ((n4 _ (by omega) (by omega) (by omega) (by omega) (by omega) (by omega) (by omega) (by omega) (by omega) (by omega) (by omega) (by omega) (by omega)).trans k3_0), ((n4 _ (by omega) (by omega) (by omega) (by omega) (by omega) (by omega) (by omega) (by omega) (by omega) (by omega) (by omega) (by omega) (by omega)).trans ((n3 _ (by omega) (by omega) (by omega) (by omega) (by omega) (by omega) (by omega) (by omega) (by omega) (by omega) (by omega) (by omega) (by omega) (by omega)).trans k2_0)), ((n4 _ (by omega) (by omega) (by omega) (by omega) (by omega) (by omega) (by omega) (by omega) (by omega) (by omega) (by omega) (by omega) (by omega)).trans ((n3 _ (by omega) (by omega) (by omega) (by omega) (by omega) (by omega) (by omega) (by omega) (by omega) (by omega) (by omega) (by omega) (by omega) (by omega)).trans ((n2 _ (by omega)).trans k1_0))), ((n4 _ (by omega) (by omega) (by omega) (by omega) (by omega) (by omega) (by omega) (by omega) (by omega) (by omega) (by omega) (by omega) (by omega)).trans ((n3 _ (by omega) (by omega) (by omega) (by omega) (by omega) (by omega) (by omega) (by omega) (by omega) (by omega) (by omega) (by omega) (by omega) (by omega)).trans ((n2 _ (by omega)).trans k1_1))), ((n4 _ (by omega) (by omega) (by omega) (by omega) (by omega) (by omega) (by omega) (by omega) (by omega) (by omega) (by omega) (by omega) (by omega)).trans ((n3 _ (by omega) (by omega) (by omega) (by omega) (by omega) (by omega) (by omega) (by omega) (by omega) (by omega) (by omega) (by omega) (by omega) (by omega)).trans ((n2 _ (by omega)).trans k1_2))), ((n4 _ (by omega) (by omega) (by omega) (by omega) (by omega) (by omega) (by omega) (by omega) (by omega) (by omega) (by omega) (by omega) (by omega)).trans ((n3 _ (by omega) (by omega) (by omega) (by omega) (by omega) (by omega) (by omega) (by omega) (by omega) (by omega) (by omega) (by omega) (by omega) (by omega)).trans ((n2 _ (by omega)).trans k1_3))), ((n4 _ (by omega) (by omega) (by omega) (by omega) (by omega) (by omega) (by omega) (by omega) (by omega) (by omega) (by omega) (by omega) (by omega)).trans ((n3 _ (by omega) (by omega) (by omega) (by omega) (by omega) (by omega) (by omega) (by omega) (by omega) (by omega) (by omega) (by omega) (by omega) (by omega)).trans ((n2 _ (by omega)).trans k1_4))), ((n4 _ (by omega) (by omega) (by omega) (by omega) (by omega) (by omega) (by omega) (by omega) (by omega) (by omega) (by omega) (by omega) (by omega)).trans ((n3 _ (by omega) (by omega) (by omega) (by omega) (by omega) (by omega) (by omega) (by omega) (by omega) (by omega) (by omega) (by omega) (by omega) (by omega)).trans ((n2 _ (by omega)).trans k1_5))), ((n4 _ (by omega) (by omega) (by omega) (by omega) (by omega) (by omega) (by omega) (by omega) (by omega) (by omega) (by omega) (by omega) (by omega)).trans ((n3 _ (by omega) (by omega) (by omega) (by omega) (by omega) (by omega) (by omega) (by omega) (by omega) (by omega) (by omega) (by omega) (by omega) (by omega)).trans ((n2 _ (by omega)).trans k1_6))), ((n4 _ (by omega) (by omega) (by omega) (by omega) (by omega) (by omega) (by omega) (by omega) (by omega) (by omega) (by omega) (by omega) (by omega)).trans ((n3 _ (by omega) (by omega) (by omega) (by omega) (by omega) (by omega) (by omega) (by omega) (by omega) (by omega) (by omega) (by omega) (by omega) (by omega)).trans ((n2 _ (by omega)).trans k1_7))), ((n4 _ (by omega) (by omega) (by omega) (by omega) (by omega) (by omega) (by omega) (by omega) (by omega) (by omega) (by omega) (by omega) (by omega)).trans ((n3 _ (by omega) (by omega) (by omega) (by omega) (by omega) (by omega) (by omega) (by omega) (by omega) (by omega) (by omega) (by omega) (by omega) (by omega)).trans ((n2 _ (by omega)).trans k1_8))), ((n4 _ (by omega) (by omega) (by omega) (by omega) (by omega) (by omega) (by omega) (by omega) (by omega) (by omega) (by omega) (by omega) (by omega)).trans ((n3 _ (by omega) (by omega) (by omega) (by omega) (by omega) (by omega) (by omega) (by omega) (by omega) (by omega) (by omega) (by omega) (by omega) (by omega)).trans ((n2 _ (by omega)).trans k1_9))), ((n4 _ (by omega) (by omega) (by omega) (by omega) (by omega) (by omega) (by omega) (by omega) (by omega) (by omega) (by omega) (by omega) (by omega)).trans ((n3 _ (by omega) (by omega) (by omega) (by omega) (by omega) (by omega) (by omega) (by omega) (by omega) (by omega) (by omega) (by omega) (by omega) (by omega)).trans ((n2 _ (by omega)).trans k1_10))), ((n4 _ (by omega) (by omega) (by omega) (by omega) (by omega) (by omega) (by omega) (by omega) (by omega) (by omega) (by omega) (by omega) (by omega)).trans ((n3 _ (by omega) (by omega) (by omega) (by omega) (by omega) (by omega) (by omega) (by omega) (by omega) (by omega) (by omega) (by omega) (by omega) (by omega)).trans ((n2 _ (by omega)).trans k1_11))), ((n4 _ (by omega) (by omega) (by omega) (by omega) (by omega) (by omega) (by omega) (by omega) (by omega) (by omega) (by omega) (by omega) (by omega)).trans ((n3 _ (by omega) (by omega) (by omega) (by omega) (by omega) (by omega) (by omega) (by omega) (by omega) (by omega) (by omega) (by omega) (by omega) (by omega)).trans ((n2 _ (by omega)).trans k1_12))), ((n4 _ (by omega) (by omega) (by omega) (by omega) (by omega) (by omega) (by omega) (by omega) (by omega) (by omega) (by omega) (by omega) (by omega)).trans ((n3 _ (by omega) (by omega) (by omega) (by omega) (by omega) (by omega) (by omega) (by omega) (by omega) (by omega) (by omega) (by omega) (by omega) (by omega)).trans ((n2 _ (by omega)).trans k1_13))), ((n4 _ (by omega) (by omega) (by omega) (by omega) (by omega) (by omega) (by omega) (by omega) (by omega) (by omega) (by omega) (by omega) (by omega)).trans ((n3 _ (by omega) (by omega) (by omega) (by omega) (by omega) (by omega) (by omega) (by omega) (by omega) (by omega) (by omega) (by omega) (by omega) (by omega)).trans ((n2 _ (by omega)).trans k1_14))), ((n4 _ (by omega) (by omega) (by omega) (by omega) (by omega) (by omega) (by omega) (by omega) (by omega) (by omega) (by omega) (by omega) (by omega)).trans k3_1), ((n4 _ (by omega) (by omega) (by omega) (by omega) (by omega) (by omega) (by omega) (by omega) (by omega) (by omega) (by omega) (by omega) (by omega)).trans k3_2), ((n4 _ (by omega) (by omega) (by omega) (by omega) (by omega) (by omega) (by omega) (by omega) (by omega) (by omega) (by omega) (by omega) (by omega)).trans k3_3), ((n4 _ (by omega) (by omega) (by omega) (by omega) (by omega) (by omega) (by omega) (by omega) (by omega) (by omega) (by omega) (by omega) (by omega)).trans k3_4), ((n4 _ (by omega) (by omega) (by omega) (by omega) (by omega) (by omega) (by omega) (by omega) (by omega) (by omega) (by omega) (by omega) (by omega)).trans k3_5), ((n4 _ (by omega) (by omega) (by omega) (by omega) (by omega) (by omega) (by omega) (by omega) (by omega) (by omega) (by omega) (by omega) (by omega)).trans k3_6), ((n4 _ (by omega) (by omega) (by omega) (by omega) (by omega) (by omega) (by omega) (by omega) (by omega) (by omega) (by omega) (by omega) (by omega)).trans k3_7), ((n4 _ (by omega) (by omega) (by omega) (by omega) (by omega) (by omega) (by omega) (by omega) (by omega) (by omega) (by omega) (by omega) (by omega)).trans k3_8), ((n4 _ (by omega) (by omega) (by omega) (by omega) (by omega) (by omega) (by omega) (by omega) (by omega) (by omega) (by omega) (by omega) (by omega)).trans k3_9), ((n4 _ (by omega) (by omega) (by omega) (by omega) (by omega) (by omega) (by omega) (by omega) (by omega) (by omega) (by omega) (by omega) (by omega)).trans k3_10), ((n4 _ (by omega) (by omega) (by omega) (by omega) (by omega) (by omega) (by omega) (by omega) (by omega) (by omega) (by omega) (by omega) (by omega)).trans k3_11), ((n4 _ (by omega) (by omega) (by omega) (by omega) (by omega) (by omega) (by omega) (by omega) (by omega) (by omega) (by omega) (by omega) (by omega)).trans k3_12), ((n4 _ (by omega) (by omega) (by omega) (by omega) (by omega) (by omega) (by omega) (by omega) (by omega) (by omega) (by omega) (by omega) (by omega)).trans k3_13), (fun q z0 z1 z2 z3 z4 z5 z6 z7 z8 z9 z10 z11 z12 z13 z14 z15 z16 z17 z18 z19 z20 z21 z22 z23 z24 z25 z26 z27 z28 z29 z30 z31 z32 z33 z34 z35 z36 z37 z38 z39 z40 z41 z42 => ((n4 q z0 z1 z2 z3 z4 z5 z6 z7 z8 z9 z10 z11 z12).trans ((n3 q z13 z30 z31 z32 z33 z34 z35 z36 z37 z38 z39 z40 z41 z42).trans ((n2 q z14).trans (n1 q z15 z16 z17 z18 z19 z20 z21 z22 z23 z24 z25 z26 z27 z28 z29))))), rfl⟩ (Nat.le_of_ble_eq_true rfl) (Nat.le_of_ble_eq_true rfl)
  · cases h
    exact A_throwS (names := ["java/lang/RuntimeException", "java/lang/Exception"]) X htb (by decide +kernel) (by decide +kernel) kw_926 kw_24 (List.mem_of_getElem? (i := 18) rfl) xa_X10_99 xg_X10_99 dX10_load_20 dX10_load_23 dX10_load_24 dX10_load_26 dX10_load_29 (Nat.le_of_ble_eq_true rfl) (Nat.le_of_ble_eq_true rfl) (Nat.le_of_ble_eq_true rfl) (Nat.le_of_ble_eq_true rfl) ⟨rfl, FAIL⟩ (Nat.le_of_ble_eq_true rfl) (Nat.le_of_ble_eq_true rfl)
def f_X10_errorCode (ec : Int32)  : Option (Int32) :=
  some ec
set_option maxHeartbeats 4000000 in
set_option maxRecDepth 100000 in
theorem c_X10_errorCode {E : KE} {l : Launch} {hp : Hp} {al : Option Nat} {x : Nat} {ec : Int32} {eo : Int32}  {out : Int32} (g0 : hp x = some (.inr (10, [.ref (x + 126), .ref (x + 128), .ref (x + 1), .ref (x + 3), .ref (x + 16), .ref (x + 18), .ref (x + 124), .ref (x + 125)]))) (g24 : hp (x + 128) = some (.inr (5, [.ref (x + 126), .ref (x + 142), .ref (x + 129), .int ec, .int eo])))  (h : f_X10_errorCode ec = some out) : AM E l yX10_errorCode cX10_errorCode 1 (Option.some Jvm.ClassFile.FieldType.int) ⟨0, 0, 0, 0⟩ [.ref x] hp al (kRet out hp al) := by
  refine A_of (by decide +kernel) (Nat.le_of_ble_eq_true rfl) ?_
  intro p e s m args below meth c X hr hnm
  have X : CX E p l s m args meth c "DiceAudit" cX10_errorCode 1 := X
  refine A_L (L' := [(0, .ref x)]) rfl ?_
  unfold f_X10_errorCode at h
  refine A_aload_n X dX10_errorCode_0 0 rfl ?_
  refine A_get X dX10_errorCode_1 kcl_X10 1 (by decide) kw_652 g0 rfl ?_
  refine A_get X dX10_errorCode_4 kcl_X5 3 (by decide) kw_250 g24 rfl ?_
  cases h
  exact A_iret X dX10_errorCode_7 hr ⟨rfl, rfl, rfl⟩ (Nat.le_of_ble_eq_true rfl) (Nat.le_of_ble_eq_true rfl)
def f_X10_errorPosition (eo : Int32)  : Option (Int32) :=
  some eo
set_option maxHeartbeats 4000000 in
set_option maxRecDepth 100000 in
theorem c_X10_errorPosition {E : KE} {l : Launch} {hp : Hp} {al : Option Nat} {x : Nat} {ec : Int32} {eo : Int32}  {out : Int32} (g0 : hp x = some (.inr (10, [.ref (x + 126), .ref (x + 128), .ref (x + 1), .ref (x + 3), .ref (x + 16), .ref (x + 18), .ref (x + 124), .ref (x + 125)]))) (g24 : hp (x + 128) = some (.inr (5, [.ref (x + 126), .ref (x + 142), .ref (x + 129), .int ec, .int eo])))  (h : f_X10_errorPosition eo = some out) : AM E l yX10_errorPosition cX10_errorPosition 1 (Option.some Jvm.ClassFile.FieldType.int) ⟨0, 0, 0, 0⟩ [.ref x] hp al (kRet out hp al) := by
  refine A_of (by decide +kernel) (Nat.le_of_ble_eq_true rfl) ?_
  intro p e s m args below meth c X hr hnm
  have X : CX E p l s m args meth c "DiceAudit" cX10_errorPosition 1 := X
  refine A_L (L' := [(0, .ref x)]) rfl ?_
  unfold f_X10_errorPosition at h
  refine A_aload_n X dX10_errorPosition_0 0 rfl ?_
  refine A_get X dX10_errorPosition_1 kcl_X10 1 (by decide) kw_652 g0 rfl ?_
  refine A_get X dX10_errorPosition_4 kcl_X5 4 (by decide) kw_252 g24 rfl ?_
  cases h
  exact A_iret X dX10_errorPosition_7 hr ⟨rfl, rfl, rfl⟩ (Nat.le_of_ble_eq_true rfl) (Nat.le_of_ble_eq_true rfl)
def f_X10_seed (sd : Int32)  : Option (Int32) :=
  some sd
set_option maxHeartbeats 4000000 in
set_option maxRecDepth 100000 in
theorem c_X10_seed {E : KE} {l : Launch} {hp : Hp} {al : Option Nat} {x : Nat} {sd : Int32} {mn : Int32} {th : Int32}  {out : Int32} (g0 : hp x = some (.inr (10, [.ref (x + 126), .ref (x + 128), .ref (x + 1), .ref (x + 3), .ref (x + 16), .ref (x + 18), .ref (x + 124), .ref (x + 125)]))) (g3 : hp (x + 3) = some (.inr (2, [.ref (x + 4), .ref (x + 7), .ref (x + 10), .ref (x + 13), .int sd, .int mn, .int th])))  (h : f_X10_seed sd = some out) : AM E l yX10_seed cX10_seed 1 (Option.some Jvm.ClassFile.FieldType.int) ⟨0, 0, 0, 0⟩ [.ref x] hp al (kRet out hp al) := by
  refine A_of (by decide +kernel) (Nat.le_of_ble_eq_true rfl) ?_
  intro p e s m args below meth c X hr hnm
  have X : CX E p l s m args meth c "DiceAudit" cX10_seed 1 := X
  refine A_L (L' := [(0, .ref x)]) rfl ?_
  unfold f_X10_seed at h
  refine A_aload_n X dX10_seed_0 0 rfl ?_
  refine A_get X dX10_seed_1 kcl_X10 3 (by decide) kw_654 g0 rfl ?_
  refine A_get X dX10_seed_4 kcl_X2 4 (by decide) kw_155 g3 rfl ?_
  cases h
  exact A_iret X dX10_seed_7 hr ⟨rfl, rfl, rfl⟩ (Nat.le_of_ble_eq_true rfl) (Nat.le_of_ble_eq_true rfl)
def f_X10_minimum (mn : Int32)  : Option (Int32) :=
  some mn
set_option maxHeartbeats 4000000 in
set_option maxRecDepth 100000 in
theorem c_X10_minimum {E : KE} {l : Launch} {hp : Hp} {al : Option Nat} {x : Nat} {sd : Int32} {mn : Int32} {th : Int32}  {out : Int32} (g0 : hp x = some (.inr (10, [.ref (x + 126), .ref (x + 128), .ref (x + 1), .ref (x + 3), .ref (x + 16), .ref (x + 18), .ref (x + 124), .ref (x + 125)]))) (g3 : hp (x + 3) = some (.inr (2, [.ref (x + 4), .ref (x + 7), .ref (x + 10), .ref (x + 13), .int sd, .int mn, .int th])))  (h : f_X10_minimum mn = some out) : AM E l yX10_minimum cX10_minimum 1 (Option.some Jvm.ClassFile.FieldType.int) ⟨0, 0, 0, 0⟩ [.ref x] hp al (kRet out hp al) := by
  refine A_of (by decide +kernel) (Nat.le_of_ble_eq_true rfl) ?_
  intro p e s m args below meth c X hr hnm
  have X : CX E p l s m args meth c "DiceAudit" cX10_minimum 1 := X
  refine A_L (L' := [(0, .ref x)]) rfl ?_
  unfold f_X10_minimum at h
  refine A_aload_n X dX10_minimum_0 0 rfl ?_
  refine A_get X dX10_minimum_1 kcl_X10 3 (by decide) kw_654 g0 rfl ?_
  refine A_get X dX10_minimum_4 kcl_X2 5 (by decide) kw_157 g3 rfl ?_
  cases h
  exact A_iret X dX10_minimum_7 hr ⟨rfl, rfl, rfl⟩ (Nat.le_of_ble_eq_true rfl) (Nat.le_of_ble_eq_true rfl)
def f_X10_threshold (th : Int32)  : Option (Int32) :=
  some th
set_option maxHeartbeats 4000000 in
set_option maxRecDepth 100000 in
theorem c_X10_threshold {E : KE} {l : Launch} {hp : Hp} {al : Option Nat} {x : Nat} {sd : Int32} {mn : Int32} {th : Int32}  {out : Int32} (g0 : hp x = some (.inr (10, [.ref (x + 126), .ref (x + 128), .ref (x + 1), .ref (x + 3), .ref (x + 16), .ref (x + 18), .ref (x + 124), .ref (x + 125)]))) (g3 : hp (x + 3) = some (.inr (2, [.ref (x + 4), .ref (x + 7), .ref (x + 10), .ref (x + 13), .int sd, .int mn, .int th])))  (h : f_X10_threshold th = some out) : AM E l yX10_threshold cX10_threshold 1 (Option.some Jvm.ClassFile.FieldType.int) ⟨0, 0, 0, 0⟩ [.ref x] hp al (kRet out hp al) := by
  refine A_of (by decide +kernel) (Nat.le_of_ble_eq_true rfl) ?_
  intro p e s m args below meth c X hr hnm
  have X : CX E p l s m args meth c "DiceAudit" cX10_threshold 1 := X
  refine A_L (L' := [(0, .ref x)]) rfl ?_
  unfold f_X10_threshold at h
  refine A_aload_n X dX10_threshold_0 0 rfl ?_
  refine A_get X dX10_threshold_1 kcl_X10 3 (by decide) kw_654 g0 rfl ?_
  refine A_get X dX10_threshold_4 kcl_X2 6 (by decide) kw_159 g3 rfl ?_
  cases h
  exact A_iret X dX10_threshold_7 hr ⟨rfl, rfl, rfl⟩ (Nat.le_of_ble_eq_true rfl) (Nat.le_of_ble_eq_true rfl)
def f_X10_dieCount (dc : Int32)  : Option (Int32) :=
  some dc
set_option maxHeartbeats 4000000 in
set_option maxRecDepth 100000 in
theorem c_X10_dieCount {E : KE} {l : Launch} {hp : Hp} {al : Option Nat} {x : Nat} {sd : Int32} {mn : Int32} {th : Int32} {dc : Int32}  {out : Int32} (g0 : hp x = some (.inr (10, [.ref (x + 126), .ref (x + 128), .ref (x + 1), .ref (x + 3), .ref (x + 16), .ref (x + 18), .ref (x + 124), .ref (x + 125)]))) (g3 : hp (x + 3) = some (.inr (2, [.ref (x + 4), .ref (x + 7), .ref (x + 10), .ref (x + 13), .int sd, .int mn, .int th]))) (g4 : hp (x + 4) = some (.inr (0, [.ref (x + 5), .ref (x + 6), .int dc])))  (h : f_X10_dieCount dc = some out) : AM E l yX10_dieCount cX10_dieCount 1 (Option.some Jvm.ClassFile.FieldType.int) ⟨0, 0, 0, 0⟩ [.ref x] hp al (kRet out hp al) := by
  refine A_of (by decide +kernel) (Nat.le_of_ble_eq_true rfl) ?_
  intro p e s m args below meth c X hr hnm
  have X : CX E p l s m args meth c "DiceAudit" cX10_dieCount 1 := X
  refine A_L (L' := [(0, .ref x)]) rfl ?_
  unfold f_X10_dieCount at h
  refine A_aload_n X dX10_dieCount_0 0 rfl ?_
  refine A_get X dX10_dieCount_1 kcl_X10 3 (by decide) kw_654 g0 rfl ?_
  refine A_get X dX10_dieCount_4 kcl_X2 0 (by decide) kw_142 g3 rfl ?_
  refine A_get X dX10_dieCount_7 kcl_X0 2 (by decide) kw_68 g4 rfl ?_
  cases h
  exact A_iret X dX10_dieCount_10 hr ⟨rfl, rfl, rfl⟩ (Nat.le_of_ble_eq_true rfl) (Nat.le_of_ble_eq_true rfl)
def f_X10_playerCount (pc : Int32)  : Option (Int32) :=
  some pc
set_option maxHeartbeats 4000000 in
set_option maxRecDepth 100000 in
theorem c_X10_playerCount {E : KE} {l : Launch} {hp : Hp} {al : Option Nat} {x : Nat} {sd : Int32} {mn : Int32} {th : Int32} {pc : Int32}  {out : Int32} (g0 : hp x = some (.inr (10, [.ref (x + 126), .ref (x + 128), .ref (x + 1), .ref (x + 3), .ref (x + 16), .ref (x + 18), .ref (x + 124), .ref (x + 125)]))) (g3 : hp (x + 3) = some (.inr (2, [.ref (x + 4), .ref (x + 7), .ref (x + 10), .ref (x + 13), .int sd, .int mn, .int th]))) (g7 : hp (x + 7) = some (.inr (7, [.ref (x + 8), .ref (x + 9), .int pc])))  (h : f_X10_playerCount pc = some out) : AM E l yX10_playerCount cX10_playerCount 1 (Option.some Jvm.ClassFile.FieldType.int) ⟨0, 0, 0, 0⟩ [.ref x] hp al (kRet out hp al) := by
  refine A_of (by decide +kernel) (Nat.le_of_ble_eq_true rfl) ?_
  intro p e s m args below meth c X hr hnm
  have X : CX E p l s m args meth c "DiceAudit" cX10_playerCount 1 := X
  refine A_L (L' := [(0, .ref x)]) rfl ?_
  unfold f_X10_playerCount at h
  refine A_aload_n X dX10_playerCount_0 0 rfl ?_
  refine A_get X dX10_playerCount_1 kcl_X10 3 (by decide) kw_654 g0 rfl ?_
  refine A_get X dX10_playerCount_4 kcl_X2 1 (by decide) kw_145 g3 rfl ?_
  refine A_get X dX10_playerCount_7 kcl_X7 2 (by decide) kw_86 g7 rfl ?_
  cases h
  exact A_iret X dX10_playerCount_10 hr ⟨rfl, rfl, rfl⟩ (Nat.le_of_ble_eq_true rfl) (Nat.le_of_ble_eq_true rfl)
def f_X10_throwCount (tc : Int32)  : Option (Int32) :=
  some tc
set_option maxHeartbeats 4000000 in
set_option maxRecDepth 100000 in
theorem c_X10_throwCount {E : KE} {l : Launch} {hp : Hp} {al : Option Nat} {x : Nat} {sd : Int32} {mn : Int32} {th : Int32} {tc : Int32}  {out : Int32} (g0 : hp x = some (.inr (10, [.ref (x + 126), .ref (x + 128), .ref (x + 1), .ref (x + 3), .ref (x + 16), .ref (x + 18), .ref (x + 124), .ref (x + 125)]))) (g3 : hp (x + 3) = some (.inr (2, [.ref (x + 4), .ref (x + 7), .ref (x + 10), .ref (x + 13), .int sd, .int mn, .int th]))) (g10 : hp (x + 10) = some (.inr (4, [.ref (x + 11), .ref (x + 12), .int tc])))  (h : f_X10_throwCount tc = some out) : AM E l yX10_throwCount cX10_throwCount 1 (Option.some Jvm.ClassFile.FieldType.int) ⟨0, 0, 0, 0⟩ [.ref x] hp al (kRet out hp al) := by
  refine A_of (by decide +kernel) (Nat.le_of_ble_eq_true rfl) ?_
  intro p e s m args below meth c X hr hnm
  have X : CX E p l s m args meth c "DiceAudit" cX10_throwCount 1 := X
  refine A_L (L' := [(0, .ref x)]) rfl ?_
  unfold f_X10_throwCount at h
  refine A_aload_n X dX10_throwCount_0 0 rfl ?_
  refine A_get X dX10_throwCount_1 kcl_X10 3 (by decide) kw_654 g0 rfl ?_
  refine A_get X dX10_throwCount_4 kcl_X2 2 (by decide) kw_148 g3 rfl ?_
  refine A_get X dX10_throwCount_7 kcl_X4 2 (by decide) kw_107 g10 rfl ?_
  cases h
  exact A_iret X dX10_throwCount_10 hr ⟨rfl, rfl, rfl⟩ (Nat.le_of_ble_eq_true rfl) (Nat.le_of_ble_eq_true rfl)
abbrev P_X10_requireDie (E : KE) (x : Nat)  (hp : Hp) (al : Option Nat) (out : String ⊕ (Unit)) : Option Value → Hp → Option Nat → Prop := fun v0 hp' al' => ∃ u, out = .inr u ∧ v0 = none ∧ hp = hp' ∧ al = al'
def f_X10_requireDie (dc : Int32) (a0 : Int32) : Option (String ⊕ (Unit)) :=
  sbd (f_X10_requireIndex a0 dc) fun t1 =>
  some (.inr ())
set_option maxHeartbeats 4000000 in
set_option maxRecDepth 100000 in
theorem c_X10_requireDie {E : KE} {l : Launch} {hp : Hp} {al : Option Nat} {x : Nat} {sd : Int32} {mn : Int32} {th : Int32} {dc : Int32} {a0 : Int32} {out : String ⊕ (Unit)} (g0 : hp x = some (.inr (10, [.ref (x + 126), .ref (x + 128), .ref (x + 1), .ref (x + 3), .ref (x + 16), .ref (x + 18), .ref (x + 124), .ref (x + 125)]))) (g3 : hp (x + 3) = some (.inr (2, [.ref (x + 4), .ref (x + 7), .ref (x + 10), .ref (x + 13), .int sd, .int mn, .int th]))) (g4 : hp (x + 4) = some (.inr (0, [.ref (x + 5), .ref (x + 6), .int dc])))  (h : f_X10_requireDie dc a0 = some out) : AX E l yX10_requireDie cX10_requireDie 2 (Option.none : Option Jvm.ClassFile.FieldType) ⟨7, 1, 6, 103⟩ [.ref x, .int a0] hp al (P_X10_requireDie E x hp al out) (kThr out hp) := by
  refine A_ofX (by decide +kernel) (Nat.le_of_ble_eq_true rfl) ?_
  intro p e s m args below meth c X hr htb
  have X : CX E p l s m args meth c "DiceAudit" cX10_requireDie 2 := X
  refine A_L (L' := [(0, .ref x), (1, .int a0)]) rfl ?_
  unfold f_X10_requireDie at h
  refine A_iload_n X dX10_requireDie_0 1 rfl ?_
  refine A_aload_n X dX10_requireDie_1 0 rfl ?_
  refine A_get X dX10_requireDie_2 kcl_X10 3 (by decide) kw_654 g0 rfl ?_
  refine A_get X dX10_requireDie_5 kcl_X2 0 (by decide) kw_142 g3 rfl ?_
  refine A_get X dX10_requireDie_8 kcl_X0 2 (by decide) kw_68 g4 rfl ?_
  rcases sbd_o h with ⟨c9, hc9, rfl⟩ | ⟨t1, hct1, h⟩
  · exact A_cX (k' := 1) (n' := 6) rfl rfl (A_runSX (rest := []) X dX10_requireDie_11 (c_X10_requireIndex   hc9) kY_X10_requireIndex kw_962 ⟨(Nat.le_of_ble_eq_true rfl), (Nat.le_of_ble_eq_true rfl), (Nat.le_of_ble_eq_true rfl), (Nat.le_of_ble_eq_true rfl)⟩ rfl (Nat.le_of_ble_eq_true rfl)) (fun C hp1 hP => by obtain ⟨hC, rfl⟩ := hP; cases hC; exact A_out X htb ⟨rfl, rfl⟩ (Nat.le_of_ble_eq_true rfl) (Nat.le_of_ble_eq_true rfl)) (fun v hp1 al1 hP => by obtain ⟨u, hu, _⟩ := hP; cases hu)
  refine A_cX (k' := 1) (n' := 6) rfl rfl (A_runSX (rest := []) X dX10_requireDie_11 (c_X10_requireIndex   hct1) kY_X10_requireIndex kw_962 ⟨(Nat.le_of_ble_eq_true rfl), (Nat.le_of_ble_eq_true rfl), (Nat.le_of_ble_eq_true rfl), (Nat.le_of_ble_eq_true rfl)⟩ rfl (Nat.le_of_ble_eq_true rfl)) (fun C hp1 hP => by obtain ⟨hC, _⟩ := hP; cases hC) (fun v9 hp1 al9 hP => ?_)
  obtain ⟨u9, hu9, rfl, rfl, rfl⟩ := hP
  cases hu9
  refine A_st (st' := []) rfl ?_
  cases h
  exact A_vretX X dX10_requireDie_14 hr ⟨_, rfl, rfl, rfl, rfl⟩ (Nat.le_of_ble_eq_true rfl) (Nat.le_of_ble_eq_true rfl)
abbrev P_X10_faces (E : KE) (x : Nat)  (hp : Hp) (al : Option Nat) (out : String ⊕ (Int32)) : Option Value → Hp → Option Nat → Prop := fun v0 hp' al' => ∃ u, out = .inr u ∧ v0 = some (.int u) ∧ hp = hp' ∧ al = al'
def f_X10_faces (dc : Int32) (fc : Nat → Int32) (a0 : Int32) : Option (String ⊕ (Int32)) :=
  sbd (f_X10_requireDie dc a0) fun t1 =>
  (f_X0_faceCount fc a0).bind fun t2 =>
  some (.inr t2)
set_option maxHeartbeats 4000000 in
set_option maxRecDepth 100000 in
theorem c_X10_faces {E : KE} {l : Launch} {hp : Hp} {al : Option Nat} {x : Nat} {sd : Int32} {mn : Int32} {th : Int32} {dc : Int32} {fc : Nat → Int32} {a0 : Int32} {out : String ⊕ (Int32)} (g0 : hp x = some (.inr (10, [.ref (x + 126), .ref (x + 128), .ref (x + 1), .ref (x + 3), .ref (x + 16), .ref (x + 18), .ref (x + 124), .ref (x + 125)]))) (g3 : hp (x + 3) = some (.inr (2, [.ref (x + 4), .ref (x + 7), .ref (x + 10), .ref (x + 13), .int sd, .int mn, .int th]))) (g4 : hp (x + 4) = some (.inr (0, [.ref (x + 5), .ref (x + 6), .int dc]))) (g5 : hp (x + 5) = some (.inl (kC E 0, 6, .inl fc)))  (h : f_X10_faces dc fc a0 = some out) : AX E l yX10_faces cX10_faces 2 (Option.some Jvm.ClassFile.FieldType.int) ⟨8, 1, 6, 124⟩ [.ref x, .int a0] hp al (P_X10_faces E x hp al out) (kThr out hp) := by
  refine A_ofX (by decide +kernel) (Nat.le_of_ble_eq_true rfl) ?_
  intro p e s m args below meth c X hr htb
  have X : CX E p l s m args meth c "DiceAudit" cX10_faces 2 := X
  refine A_L (L' := [(0, .ref x), (1, .int a0)]) rfl ?_
  unfold f_X10_faces at h
  refine A_aload_n X dX10_faces_0 0 rfl ?_
  refine A_iload_n X dX10_faces_1 1 rfl ?_
  rcases sbd_o h with ⟨c9, hc9, rfl⟩ | ⟨t1, hct1, h⟩
  · exact A_cX (k' := 1) (n' := 6) rfl rfl (A_runVX (rest := []) X dX10_faces_2 (c_X10_requireDie g0 g3 g4  hc9) kY_X10_requireDie kw_958 g0 rfl rfl ⟨(Nat.le_of_ble_eq_true rfl), (Nat.le_of_ble_eq_true rfl), (Nat.le_of_ble_eq_true rfl), (Nat.le_of_ble_eq_true rfl)⟩ rfl (Nat.le_of_ble_eq_true rfl)) (fun C hp1 hP => by obtain ⟨hC, rfl⟩ := hP; cases hC; exact A_out X htb ⟨rfl, rfl⟩ (Nat.le_of_ble_eq_true rfl) (Nat.le_of_ble_eq_true rfl)) (fun v hp1 al1 hP => by obtain ⟨u, hu, _⟩ := hP; cases hu)
  refine A_cX (k' := 1) (n' := 6) rfl rfl (A_runVX (rest := []) X dX10_faces_2 (c_X10_requireDie g0 g3 g4  hct1) kY_X10_requireDie kw_958 g0 rfl rfl ⟨(Nat.le_of_ble_eq_true rfl), (Nat.le_of_ble_eq_true rfl), (Nat.le_of_ble_eq_true rfl), (Nat.le_of_ble_eq_true rfl)⟩ rfl (Nat.le_of_ble_eq_true rfl)) (fun C hp1 hP => by obtain ⟨hC, _⟩ := hP; cases hC) (fun v9 hp1 al9 hP => ?_)
  obtain ⟨u9, hu9, rfl, rfl, rfl⟩ := hP
  cases hu9
  refine A_st (st' := []) rfl ?_
  refine A_aload_n X dX10_faces_5 0 rfl ?_
  refine A_get X dX10_faces_6 kcl_X10 3 (by decide) kw_654 g0 rfl ?_
  refine A_get X dX10_faces_9 kcl_X2 0 (by decide) kw_142 g3 rfl ?_
  refine A_iload_n X dX10_faces_12 1 rfl ?_
  obtain ⟨t2, hct2, h⟩ := bind_o h
  refine A_cp (k' := 1) (n' := 6) (A_runV (rest := []) X dX10_faces_13 (c_X0_faceCount g4 g5  hct2) kY_X0_faceCount kw_981 g4 rfl rfl ⟨(Nat.le_of_ble_eq_true rfl), (Nat.le_of_ble_eq_true rfl), (Nat.le_of_ble_eq_true rfl), (Nat.le_of_ble_eq_true rfl)⟩ rfl (Nat.le_of_ble_eq_true rfl)) rfl rfl ?_
  cases h
  exact A_iretX X dX10_faces_16 hr ⟨_, rfl, rfl, rfl, rfl⟩ (Nat.le_of_ble_eq_true rfl) (Nat.le_of_ble_eq_true rfl)
abbrev P_X10_requireFace (E : KE) (x : Nat)  (hp : Hp) (al : Option Nat) (out : String ⊕ (Unit)) : Option Value → Hp → Option Nat → Prop := fun v0 hp' al' => ∃ u, out = .inr u ∧ v0 = none ∧ hp = hp' ∧ al = al'
def f_X10_requireFace (fc : Nat → Int32) (a0 : Int32) (a1 : Int32) : Option (String ⊕ (Unit)) :=
  (f_X0_faceCount fc a0).bind fun t1 =>
  sbd (f_X10_requireRange a1 1 t1) fun t2 =>
  some (.inr ())
set_option maxHeartbeats 4000000 in
set_option maxRecDepth 100000 in
theorem c_X10_requireFace {E : KE} {l : Launch} {hp : Hp} {al : Option Nat} {x : Nat} {sd : Int32} {mn : Int32} {th : Int32} {dc : Int32} {fc : Nat → Int32} {a0 : Int32} {a1 : Int32} {out : String ⊕ (Unit)} (g0 : hp x = some (.inr (10, [.ref (x + 126), .ref (x + 128), .ref (x + 1), .ref (x + 3), .ref (x + 16), .ref (x + 18), .ref (x + 124), .ref (x + 125)]))) (g3 : hp (x + 3) = some (.inr (2, [.ref (x + 4), .ref (x + 7), .ref (x + 10), .ref (x + 13), .int sd, .int mn, .int th]))) (g4 : hp (x + 4) = some (.inr (0, [.ref (x + 5), .ref (x + 6), .int dc]))) (g5 : hp (x + 5) = some (.inl (kC E 0, 6, .inl fc)))  (h : f_X10_requireFace fc a0 a1 = some out) : AX E l yX10_requireFace cX10_requireFace 3 (Option.none : Option Jvm.ClassFile.FieldType) ⟨7, 1, 6, 104⟩ [.ref x, .int a0, .int a1] hp al (P_X10_requireFace E x hp al out) (kThr out hp) := by
  refine A_ofX (by decide +kernel) (Nat.le_of_ble_eq_true rfl) ?_
  intro p e s m args below meth c X hr htb
  have X : CX E p l s m args meth c "DiceAudit" cX10_requireFace 3 := X
  refine A_L (L' := [(0, .ref x), (1, .int a0), (2, .int a1)]) rfl ?_
  unfold f_X10_requireFace at h
  refine A_iload_n X dX10_requireFace_0 2 rfl ?_
  refine A_iconst (v := 1) X dX10_requireFace_1 (by decide) ?_
  refine A_aload_n X dX10_requireFace_2 0 rfl ?_
  refine A_get X dX10_requireFace_3 kcl_X10 3 (by decide) kw_654 g0 rfl ?_
  refine A_get X dX10_requireFace_6 kcl_X2 0 (by decide) kw_142 g3 rfl ?_
  refine A_iload_n X dX10_requireFace_9 1 rfl ?_
  obtain ⟨t1, hct1, h⟩ := bind_o h
  refine A_cp (k' := 0) (n' := 0) (A_runV (rest := [.int 1, .int a1]) X dX10_requireFace_10 (c_X0_faceCount g4 g5  hct1) kY_X0_faceCount kw_981 g4 rfl rfl ⟨(Nat.le_of_ble_eq_true rfl), (Nat.le_of_ble_eq_true rfl), (Nat.le_of_ble_eq_true rfl), (Nat.le_of_ble_eq_true rfl)⟩ rfl (Nat.le_of_ble_eq_true rfl)) rfl rfl ?_
  rcases sbd_o h with ⟨c9, hc9, rfl⟩ | ⟨t2, hct2, h⟩
  · exact A_cX (k' := 1) (n' := 6) rfl rfl (A_runSX (rest := []) X dX10_requireFace_13 (c_X10_requireRange   hc9) kY_X10_requireRange kw_923 ⟨(Nat.le_of_ble_eq_true rfl), (Nat.le_of_ble_eq_true rfl), (Nat.le_of_ble_eq_true rfl), (Nat.le_of_ble_eq_true rfl)⟩ rfl (Nat.le_of_ble_eq_true rfl)) (fun C hp1 hP => by obtain ⟨hC, rfl⟩ := hP; cases hC; exact A_out X htb ⟨rfl, rfl⟩ (Nat.le_of_ble_eq_true rfl) (Nat.le_of_ble_eq_true rfl)) (fun v hp1 al1 hP => by obtain ⟨u, hu, _⟩ := hP; cases hu)
  refine A_cX (k' := 1) (n' := 6) rfl rfl (A_runSX (rest := []) X dX10_requireFace_13 (c_X10_requireRange   hct2) kY_X10_requireRange kw_923 ⟨(Nat.le_of_ble_eq_true rfl), (Nat.le_of_ble_eq_true rfl), (Nat.le_of_ble_eq_true rfl), (Nat.le_of_ble_eq_true rfl)⟩ rfl (Nat.le_of_ble_eq_true rfl)) (fun C hp1 hP => by obtain ⟨hC, _⟩ := hP; cases hC) (fun v9 hp1 al9 hP => ?_)
  obtain ⟨u9, hu9, rfl, rfl, rfl⟩ := hP
  cases hu9
  refine A_st (st' := []) rfl ?_
  cases h
  exact A_vretX X dX10_requireFace_16 hr ⟨_, rfl, rfl, rfl, rfl⟩ (Nat.le_of_ble_eq_true rfl) (Nat.le_of_ble_eq_true rfl)
abbrev P_X10_weightOf (E : KE) (x : Nat)  (hp : Hp) (al : Option Nat) (out : String ⊕ (Int32)) : Option Value → Hp → Option Nat → Prop := fun v0 hp' al' => ∃ u, out = .inr u ∧ v0 = some (.int u) ∧ hp = hp' ∧ al = al'
def f_X10_weightOf (dc : Int32) (fc : Nat → Int32) (dw : Nat → Int32) (a0 : Int32) (a1 : Int32) : Option (String ⊕ (Int32)) :=
  sbd (f_X10_requireDie dc a0) fun t1 =>
  sbd (f_X10_requireFace fc a0 a1) fun t2 =>
  (f_X0_weight dw a0 a1).bind fun t3 =>
  some (.inr t3)
set_option maxHeartbeats 4000000 in
set_option maxRecDepth 100000 in
theorem c_X10_weightOf {E : KE} {l : Launch} {hp : Hp} {al : Option Nat} {x : Nat} {sd : Int32} {mn : Int32} {th : Int32} {dc : Int32} {fc : Nat → Int32} {dw : Nat → Int32} {a0 : Int32} {a1 : Int32} {out : String ⊕ (Int32)} (g0 : hp x = some (.inr (10, [.ref (x + 126), .ref (x + 128), .ref (x + 1), .ref (x + 3), .ref (x + 16), .ref (x + 18), .ref (x + 124), .ref (x + 125)]))) (g3 : hp (x + 3) = some (.inr (2, [.ref (x + 4), .ref (x + 7), .ref (x + 10), .ref (x + 13), .int sd, .int mn, .int th]))) (g4 : hp (x + 4) = some (.inr (0, [.ref (x + 5), .ref (x + 6), .int dc]))) (g5 : hp (x + 5) = some (.inl (kC E 0, 6, .inl fc))) (g6 : hp (x + 6) = some (.inl (kC E 0, 72, .inl dw)))  (h : f_X10_weightOf dc fc dw a0 a1 = some out) : AX E l yX10_weightOf cX10_weightOf 3 (Option.some Jvm.ClassFile.FieldType.int) ⟨8, 2, 12, 126⟩ [.ref x, .int a0, .int a1] hp al (P_X10_weightOf E x hp al out) (kThr out hp) := by
  refine A_ofX (by decide +kernel) (Nat.le_of_ble_eq_true rfl) ?_
  intro p e s m args below meth c X hr htb
  have X : CX E p l s m args meth c "DiceAudit" cX10_weightOf 3 := X
  refine A_L (L' := [(0, .ref x), (1, .int a0), (2, .int a1)]) rfl ?_
  unfold f_X10_weightOf at h
  refine A_aload_n X dX10_weightOf_0 0 rfl ?_
  refine A_iload_n X dX10_weightOf_1 1 rfl ?_
  rcases sbd_o h with ⟨c9, hc9, rfl⟩ | ⟨t1, hct1, h⟩
  · exact A_cX (k' := 1) (n' := 6) rfl rfl (A_runVX (rest := []) X dX10_weightOf_2 (c_X10_requireDie g0 g3 g4  hc9) kY_X10_requireDie kw_958 g0 rfl rfl ⟨(Nat.le_of_ble_eq_true rfl), (Nat.le_of_ble_eq_true rfl), (Nat.le_of_ble_eq_true rfl), (Nat.le_of_ble_eq_true rfl)⟩ rfl (Nat.le_of_ble_eq_true rfl)) (fun C hp1 hP => by obtain ⟨hC, rfl⟩ := hP; cases hC; exact A_out X htb ⟨rfl, rfl⟩ (Nat.le_of_ble_eq_true rfl) (Nat.le_of_ble_eq_true rfl)) (fun v hp1 al1 hP => by obtain ⟨u, hu, _⟩ := hP; cases hu)
  refine A_cX (k' := 1) (n' := 6) rfl rfl (A_runVX (rest := []) X dX10_weightOf_2 (c_X10_requireDie g0 g3 g4  hct1) kY_X10_requireDie kw_958 g0 rfl rfl ⟨(Nat.le_of_ble_eq_true rfl), (Nat.le_of_ble_eq_true rfl), (Nat.le_of_ble_eq_true rfl), (Nat.le_of_ble_eq_true rfl)⟩ rfl (Nat.le_of_ble_eq_true rfl)) (fun C hp1 hP => by obtain ⟨hC, _⟩ := hP; cases hC) (fun v9 hp1 al9 hP => ?_)
  obtain ⟨u9, hu9, rfl, rfl, rfl⟩ := hP
  cases hu9
  refine A_st (st' := []) rfl ?_
  refine A_aload_n X dX10_weightOf_5 0 rfl ?_
  refine A_iload_n X dX10_weightOf_6 1 rfl ?_
  refine A_iload_n X dX10_weightOf_7 2 rfl ?_
  rcases sbd_o h with ⟨c9, hc9, rfl⟩ | ⟨t2, hct2, h⟩
  · exact A_cX (k' := 2) (n' := 12) rfl rfl (A_runVX (rest := []) X dX10_weightOf_8 (c_X10_requireFace g0 g3 g4 g5  hc9) kY_X10_requireFace kw_989 g0 rfl rfl ⟨(Nat.le_of_ble_eq_true rfl), (Nat.le_of_ble_eq_true rfl), (Nat.le_of_ble_eq_true rfl), (Nat.le_of_ble_eq_true rfl)⟩ rfl (Nat.le_of_ble_eq_true rfl)) (fun C hp1 hP => by obtain ⟨hC, rfl⟩ := hP; cases hC; exact A_out X htb ⟨rfl, rfl⟩ (Nat.le_of_ble_eq_true rfl) (Nat.le_of_ble_eq_true rfl)) (fun v hp1 al1 hP => by obtain ⟨u, hu, _⟩ := hP; cases hu)
  refine A_cX (k' := 2) (n' := 12) rfl rfl (A_runVX (rest := []) X dX10_weightOf_8 (c_X10_requireFace g0 g3 g4 g5  hct2) kY_X10_requireFace kw_989 g0 rfl rfl ⟨(Nat.le_of_ble_eq_true rfl), (Nat.le_of_ble_eq_true rfl), (Nat.le_of_ble_eq_true rfl), (Nat.le_of_ble_eq_true rfl)⟩ rfl (Nat.le_of_ble_eq_true rfl)) (fun C hp1 hP => by obtain ⟨hC, _⟩ := hP; cases hC) (fun v9 hp1 al9 hP => ?_)
  obtain ⟨u9, hu9, rfl, rfl, rfl⟩ := hP
  cases hu9
  refine A_st (st' := []) rfl ?_
  refine A_aload_n X dX10_weightOf_11 0 rfl ?_
  refine A_get X dX10_weightOf_12 kcl_X10 3 (by decide) kw_654 g0 rfl ?_
  refine A_get X dX10_weightOf_15 kcl_X2 0 (by decide) kw_142 g3 rfl ?_
  refine A_iload_n X dX10_weightOf_18 1 rfl ?_
  refine A_iload_n X dX10_weightOf_19 2 rfl ?_
  obtain ⟨t3, hct3, h⟩ := bind_o h
  refine A_cp (k' := 2) (n' := 12) (A_runV (rest := []) X dX10_weightOf_20 (c_X0_weight g4 g6  hct3) kY_X0_weight kw_993 g4 rfl rfl ⟨(Nat.le_of_ble_eq_true rfl), (Nat.le_of_ble_eq_true rfl), (Nat.le_of_ble_eq_true rfl), (Nat.le_of_ble_eq_true rfl)⟩ rfl (Nat.le_of_ble_eq_true rfl)) rfl rfl ?_
  cases h
  exact A_iretX X dX10_weightOf_23 hr ⟨_, rfl, rfl, rfl, rfl⟩ (Nat.le_of_ble_eq_true rfl) (Nat.le_of_ble_eq_true rfl)
abbrev P_X10_isBalanced (E : KE) (x : Nat)  (hp : Hp) (al : Option Nat) (out : String ⊕ (Int32)) : Option Value → Hp → Option Nat → Prop := fun v0 hp' al' => ∃ u, out = .inr u ∧ v0 = some (.int u) ∧ (u = 0 ∨ u = 1) ∧ hp = hp' ∧ al = al'
def f_X10_isBalanced (N : Nat) (dc : Int32) (fc : Nat → Int32) (dw : Nat → Int32) (a0 : Int32) : Option (String ⊕ (Int32)) :=
  sbd (f_X10_requireDie dc a0) fun t1 =>
  (f_X0_hasEqualWeights N fc dw a0).bind fun t2 =>
  some (.inr t2)
set_option maxHeartbeats 4000000 in
set_option maxRecDepth 100000 in
theorem c_X10_isBalanced {E : KE} {l : Launch} {hp : Hp} {al : Option Nat} {N : Nat} {x : Nat} {sd : Int32} {mn : Int32} {th : Int32} {dc : Int32} {fc : Nat → Int32} {dw : Nat → Int32} {a0 : Int32} {out : String ⊕ (Int32)} (g0 : hp x = some (.inr (10, [.ref (x + 126), .ref (x + 128), .ref (x + 1), .ref (x + 3), .ref (x + 16), .ref (x + 18), .ref (x + 124), .ref (x + 125)]))) (g3 : hp (x + 3) = some (.inr (2, [.ref (x + 4), .ref (x + 7), .ref (x + 10), .ref (x + 13), .int sd, .int mn, .int th]))) (g4 : hp (x + 4) = some (.inr (0, [.ref (x + 5), .ref (x + 6), .int dc]))) (g5 : hp (x + 5) = some (.inl (kC E 0, 6, .inl fc))) (g6 : hp (x + 6) = some (.inl (kC E 0, 72, .inl dw)))  (h : f_X10_isBalanced N dc fc dw a0 = some out) : AX E l yX10_isBalanced cX10_isBalanced 2 (Option.some Jvm.ClassFile.FieldType.boolean) ⟨8, 1, 6, 124⟩ [.ref x, .int a0] hp al (P_X10_isBalanced E x hp al out) (kThr out hp) := by
  refine A_ofX (by decide +kernel) (Nat.le_of_ble_eq_true rfl) ?_
  intro p e s m args below meth c X hr htb
  have X : CX E p l s m args meth c "DiceAudit" cX10_isBalanced 2 := X
  refine A_L (L' := [(0, .ref x), (1, .int a0)]) rfl ?_
  unfold f_X10_isBalanced at h
  refine A_aload_n X dX10_isBalanced_0 0 rfl ?_
  refine A_iload_n X dX10_isBalanced_1 1 rfl ?_
  rcases sbd_o h with ⟨c9, hc9, rfl⟩ | ⟨t1, hct1, h⟩
  · exact A_cX (k' := 1) (n' := 6) rfl rfl (A_runVX (rest := []) X dX10_isBalanced_2 (c_X10_requireDie g0 g3 g4  hc9) kY_X10_requireDie kw_958 g0 rfl rfl ⟨(Nat.le_of_ble_eq_true rfl), (Nat.le_of_ble_eq_true rfl), (Nat.le_of_ble_eq_true rfl), (Nat.le_of_ble_eq_true rfl)⟩ rfl (Nat.le_of_ble_eq_true rfl)) (fun C hp1 hP => by obtain ⟨hC, rfl⟩ := hP; cases hC; exact A_out X htb ⟨rfl, rfl⟩ (Nat.le_of_ble_eq_true rfl) (Nat.le_of_ble_eq_true rfl)) (fun v hp1 al1 hP => by obtain ⟨u, hu, _⟩ := hP; cases hu)
  refine A_cX (k' := 1) (n' := 6) rfl rfl (A_runVX (rest := []) X dX10_isBalanced_2 (c_X10_requireDie g0 g3 g4  hct1) kY_X10_requireDie kw_958 g0 rfl rfl ⟨(Nat.le_of_ble_eq_true rfl), (Nat.le_of_ble_eq_true rfl), (Nat.le_of_ble_eq_true rfl), (Nat.le_of_ble_eq_true rfl)⟩ rfl (Nat.le_of_ble_eq_true rfl)) (fun C hp1 hP => by obtain ⟨hC, _⟩ := hP; cases hC) (fun v9 hp1 al9 hP => ?_)
  obtain ⟨u9, hu9, rfl, rfl, rfl⟩ := hP
  cases hu9
  refine A_st (st' := []) rfl ?_
  refine A_aload_n X dX10_isBalanced_5 0 rfl ?_
  refine A_get X dX10_isBalanced_6 kcl_X10 3 (by decide) kw_654 g0 rfl ?_
  refine A_get X dX10_isBalanced_9 kcl_X2 0 (by decide) kw_142 g3 rfl ?_
  refine A_iload_n X dX10_isBalanced_12 1 rfl ?_
  obtain ⟨t2, hct2, h⟩ := bind_o h
  refine A_c (k' := 1) (n' := 6) rfl rfl (A_runV (rest := []) X dX10_isBalanced_13 (c_X0_hasEqualWeights g4 g5 g6  hct2) kY_X0_hasEqualWeights kw_1004 g4 rfl rfl ⟨(Nat.le_of_ble_eq_true rfl), (Nat.le_of_ble_eq_true rfl), (Nat.le_of_ble_eq_true rfl), (Nat.le_of_ble_eq_true rfl)⟩ rfl (Nat.le_of_ble_eq_true rfl)) (fun v9 hp1 al9 hP => ?_)
  obtain ⟨rfl, zt2, rfl, rfl⟩ := hP
  refine A_st (st' := [.int t2]) rfl ?_
  cases h
  exact A_zretX X dX10_isBalanced_16 hr zt2 ⟨_, rfl, rfl, zt2, rfl, rfl⟩ (Nat.le_of_ble_eq_true rfl) (Nat.le_of_ble_eq_true rfl)
abbrev P_X10_heaviestFace (E : KE) (x : Nat)  (hp : Hp) (al : Option Nat) (out : String ⊕ (Int32)) : Option Value → Hp → Option Nat → Prop := fun v0 hp' al' => ∃ u, out = .inr u ∧ v0 = some (.int u) ∧ hp = hp' ∧ al = al'
def f_X10_heaviestFace (N : Nat) (dc : Int32) (fc : Nat → Int32) (dw : Nat → Int32) (a0 : Int32) : Option (String ⊕ (Int32)) :=
  sbd (f_X10_requireDie dc a0) fun t1 =>
  (f_X10_cellOf a0 1).bind fun t2 =>
  (f_X0_faceCount fc a0).bind fun t3 =>
  (f_X10_greatestCell N 72 dw t2 t3).bind fun t4 =>
  some (.inr t4)
set_option maxHeartbeats 4000000 in
set_option maxRecDepth 100000 in
theorem c_X10_heaviestFace {E : KE} {l : Launch} {hp : Hp} {al : Option Nat} {N : Nat} {x : Nat} {sd : Int32} {mn : Int32} {th : Int32} {dc : Int32} {fc : Nat → Int32} {dw : Nat → Int32} {a0 : Int32} {out : String ⊕ (Int32)} (g0 : hp x = some (.inr (10, [.ref (x + 126), .ref (x + 128), .ref (x + 1), .ref (x + 3), .ref (x + 16), .ref (x + 18), .ref (x + 124), .ref (x + 125)]))) (g3 : hp (x + 3) = some (.inr (2, [.ref (x + 4), .ref (x + 7), .ref (x + 10), .ref (x + 13), .int sd, .int mn, .int th]))) (g4 : hp (x + 4) = some (.inr (0, [.ref (x + 5), .ref (x + 6), .int dc]))) (g5 : hp (x + 5) = some (.inl (kC E 0, 6, .inl fc))) (g6 : hp (x + 6) = some (.inl (kC E 0, 72, .inl dw)))  (h : f_X10_heaviestFace N dc fc dw a0 = some out) : AX E l yX10_heaviestFace cX10_heaviestFace 2 (Option.some Jvm.ClassFile.FieldType.int) ⟨8, 1, 6, 124⟩ [.ref x, .int a0] hp al (P_X10_heaviestFace E x hp al out) (kThr out hp) := by
  refine A_ofX (by decide +kernel) (Nat.le_of_ble_eq_true rfl) ?_
  intro p e s m args below meth c X hr htb
  have X : CX E p l s m args meth c "DiceAudit" cX10_heaviestFace 2 := X
  refine A_L (L' := [(0, .ref x), (1, .int a0)]) rfl ?_
  unfold f_X10_heaviestFace at h
  refine A_aload_n X dX10_heaviestFace_0 0 rfl ?_
  refine A_iload_n X dX10_heaviestFace_1 1 rfl ?_
  rcases sbd_o h with ⟨c9, hc9, rfl⟩ | ⟨t1, hct1, h⟩
  · exact A_cX (k' := 1) (n' := 6) rfl rfl (A_runVX (rest := []) X dX10_heaviestFace_2 (c_X10_requireDie g0 g3 g4  hc9) kY_X10_requireDie kw_958 g0 rfl rfl ⟨(Nat.le_of_ble_eq_true rfl), (Nat.le_of_ble_eq_true rfl), (Nat.le_of_ble_eq_true rfl), (Nat.le_of_ble_eq_true rfl)⟩ rfl (Nat.le_of_ble_eq_true rfl)) (fun C hp1 hP => by obtain ⟨hC, rfl⟩ := hP; cases hC; exact A_out X htb ⟨rfl, rfl⟩ (Nat.le_of_ble_eq_true rfl) (Nat.le_of_ble_eq_true rfl)) (fun v hp1 al1 hP => by obtain ⟨u, hu, _⟩ := hP; cases hu)
  refine A_cX (k' := 1) (n' := 6) rfl rfl (A_runVX (rest := []) X dX10_heaviestFace_2 (c_X10_requireDie g0 g3 g4  hct1) kY_X10_requireDie kw_958 g0 rfl rfl ⟨(Nat.le_of_ble_eq_true rfl), (Nat.le_of_ble_eq_true rfl), (Nat.le_of_ble_eq_true rfl), (Nat.le_of_ble_eq_true rfl)⟩ rfl (Nat.le_of_ble_eq_true rfl)) (fun C hp1 hP => by obtain ⟨hC, _⟩ := hP; cases hC) (fun v9 hp1 al9 hP => ?_)
  obtain ⟨u9, hu9, rfl, rfl, rfl⟩ := hP
  cases hu9
  refine A_st (st' := []) rfl ?_
  refine A_aload_n X dX10_heaviestFace_5 0 rfl ?_
  refine A_get X dX10_heaviestFace_6 kcl_X10 3 (by decide) kw_654 g0 rfl ?_
  refine A_get X dX10_heaviestFace_9 kcl_X2 0 (by decide) kw_142 g3 rfl ?_
  refine A_get X dX10_heaviestFace_12 kcl_X0 1 (by decide) kw_65 g4 rfl ?_
  refine A_iload_n X dX10_heaviestFace_15 1 rfl ?_
  refine A_iconst (v := 1) X dX10_heaviestFace_16 (by decide) ?_
  obtain ⟨t2, hct2, h⟩ := bind_o h
  refine A_cp (k' := 1) (n' := 6) (A_runS (rest := [.ref (x + 6)]) X dX10_heaviestFace_17 (c_X10_cellOf   hct2) kY_X10_cellOf kw_1017 ⟨(Nat.le_of_ble_eq_true rfl), (Nat.le_of_ble_eq_true rfl), (Nat.le_of_ble_eq_true rfl), (Nat.le_of_ble_eq_true rfl)⟩ rfl (Nat.le_of_ble_eq_true rfl)) rfl rfl ?_
  refine A_aload_n X dX10_heaviestFace_20 0 rfl ?_
  refine A_get X dX10_heaviestFace_21 kcl_X10 3 (by decide) kw_654 g0 rfl ?_
  refine A_get X dX10_heaviestFace_24 kcl_X2 0 (by decide) kw_142 g3 rfl ?_
  refine A_iload_n X dX10_heaviestFace_27 1 rfl ?_
  obtain ⟨t3, hct3, h⟩ := bind_o h
  refine A_cp (k' := 1) (n' := 6) (A_runV (rest := [.int t2, .ref (x + 6)]) X dX10_heaviestFace_28 (c_X0_faceCount g4 g5  hct3) kY_X0_faceCount kw_981 g4 rfl rfl ⟨(Nat.le_of_ble_eq_true rfl), (Nat.le_of_ble_eq_true rfl), (Nat.le_of_ble_eq_true rfl), (Nat.le_of_ble_eq_true rfl)⟩ rfl (Nat.le_of_ble_eq_true rfl)) rfl rfl ?_
  obtain ⟨t4, hct4, h⟩ := bind_o h
  refine A_cp (k' := 1) (n' := 6) (A_runS (rest := []) X dX10_heaviestFace_31 (c_X10_greatestCell g6  hct4) kY_X10_greatestCell kw_1018 ⟨(Nat.le_of_ble_eq_true rfl), (Nat.le_of_ble_eq_true rfl), (Nat.le_of_ble_eq_true rfl), (Nat.le_of_ble_eq_true rfl)⟩ rfl (Nat.le_of_ble_eq_true rfl)) rfl rfl ?_
  cases h
  exact A_iretX X dX10_heaviestFace_34 hr ⟨_, rfl, rfl, rfl, rfl⟩ (Nat.le_of_ble_eq_true rfl) (Nat.le_of_ble_eq_true rfl)
abbrev P_X10_requirePlayer (E : KE) (x : Nat)  (hp : Hp) (al : Option Nat) (out : String ⊕ (Unit)) : Option Value → Hp → Option Nat → Prop := fun v0 hp' al' => ∃ u, out = .inr u ∧ v0 = none ∧ hp = hp' ∧ al = al'
def f_X10_requirePlayer (pc : Int32) (a0 : Int32) : Option (String ⊕ (Unit)) :=
  sbd (f_X10_requireIndex a0 pc) fun t1 =>
  some (.inr ())
set_option maxHeartbeats 4000000 in
set_option maxRecDepth 100000 in
theorem c_X10_requirePlayer {E : KE} {l : Launch} {hp : Hp} {al : Option Nat} {x : Nat} {sd : Int32} {mn : Int32} {th : Int32} {pc : Int32} {a0 : Int32} {out : String ⊕ (Unit)} (g0 : hp x = some (.inr (10, [.ref (x + 126), .ref (x + 128), .ref (x + 1), .ref (x + 3), .ref (x + 16), .ref (x + 18), .ref (x + 124), .ref (x + 125)]))) (g3 : hp (x + 3) = some (.inr (2, [.ref (x + 4), .ref (x + 7), .ref (x + 10), .ref (x + 13), .int sd, .int mn, .int th]))) (g7 : hp (x + 7) = some (.inr (7, [.ref (x + 8), .ref (x + 9), .int pc])))  (h : f_X10_requirePlayer pc a0 = some out) : AX E l yX10_requirePlayer cX10_requirePlayer 2 (Option.none : Option Jvm.ClassFile.FieldType) ⟨7, 1, 6, 103⟩ [.ref x, .int a0] hp al (P_X10_requirePlayer E x hp al out) (kThr out hp) := by
  refine A_ofX (by decide +kernel) (Nat.le_of_ble_eq_true rfl) ?_
  intro p e s m args below meth c X hr htb
  have X : CX E p l s m args meth c "DiceAudit" cX10_requirePlayer 2 := X
  refine A_L (L' := [(0, .ref x), (1, .int a0)]) rfl ?_
  unfold f_X10_requirePlayer at h
  refine A_iload_n X dX10_requirePlayer_0 1 rfl ?_
  refine A_aload_n X dX10_requirePlayer_1 0 rfl ?_
  refine A_get X dX10_requirePlayer_2 kcl_X10 3 (by decide) kw_654 g0 rfl ?_
  refine A_get X dX10_requirePlayer_5 kcl_X2 1 (by decide) kw_145 g3 rfl ?_
  refine A_get X dX10_requirePlayer_8 kcl_X7 2 (by decide) kw_86 g7 rfl ?_
  rcases sbd_o h with ⟨c9, hc9, rfl⟩ | ⟨t1, hct1, h⟩
  · exact A_cX (k' := 1) (n' := 6) rfl rfl (A_runSX (rest := []) X dX10_requirePlayer_11 (c_X10_requireIndex   hc9) kY_X10_requireIndex kw_962 ⟨(Nat.le_of_ble_eq_true rfl), (Nat.le_of_ble_eq_true rfl), (Nat.le_of_ble_eq_true rfl), (Nat.le_of_ble_eq_true rfl)⟩ rfl (Nat.le_of_ble_eq_true rfl)) (fun C hp1 hP => by obtain ⟨hC, rfl⟩ := hP; cases hC; exact A_out X htb ⟨rfl, rfl⟩ (Nat.le_of_ble_eq_true rfl) (Nat.le_of_ble_eq_true rfl)) (fun v hp1 al1 hP => by obtain ⟨u, hu, _⟩ := hP; cases hu)
  refine A_cX (k' := 1) (n' := 6) rfl rfl (A_runSX (rest := []) X dX10_requirePlayer_11 (c_X10_requireIndex   hct1) kY_X10_requireIndex kw_962 ⟨(Nat.le_of_ble_eq_true rfl), (Nat.le_of_ble_eq_true rfl), (Nat.le_of_ble_eq_true rfl), (Nat.le_of_ble_eq_true rfl)⟩ rfl (Nat.le_of_ble_eq_true rfl)) (fun C hp1 hP => by obtain ⟨hC, _⟩ := hP; cases hC) (fun v9 hp1 al9 hP => ?_)
  obtain ⟨u9, hu9, rfl, rfl, rfl⟩ := hP
  cases hu9
  refine A_st (st' := []) rfl ?_
  cases h
  exact A_vretX X dX10_requirePlayer_14 hr ⟨_, rfl, rfl, rfl, rfl⟩ (Nat.le_of_ble_eq_true rfl) (Nat.le_of_ble_eq_true rfl)
abbrev P_X10_nameByte (E : KE) (x : Nat)  (hp : Hp) (al : Option Nat) (out : String ⊕ (Int32)) : Option Value → Hp → Option Nat → Prop := fun v0 hp' al' => ∃ u, out = .inr u ∧ v0 = some (.int u) ∧ hp = hp' ∧ al = al'
def f_X10_nameByte_L24 (pc : Int32) (ln : Nat → Int32) (lt : Nat → Int32)   : Option (String ⊕ (Int32)) :=
  some (.inl "java/util/NoSuchElementException")
set_option maxHeartbeats 4000000 in
set_option maxRecDepth 100000 in
theorem c_X10_nameByte_L24 {E : KE} {p : Program} {l : Launch} {e : Env} {s : State} {m : MethodId} {args : Array Value} {below : List Frame} {meth : Method} {c : Code} {al : Option Nat} {x : Nat} {sd : Int32} {mn : Int32} {th : Int32} {pc : Int32} {ln : Nat → Int32} {lt : Nat → Int32} {hp0 : Hp} {out : String ⊕ (Int32)}  (X : CX E p l s m args meth c "DiceAudit" cX10_nameByte 3) (hr : meth.sig.returnType = (Option.some Jvm.ClassFile.FieldType.int)) (htb : ∀ x ∈ c.exceptionTable.toList, False)  (g0 : hp0 x = some (.inr (10, [.ref (x + 126), .ref (x + 128), .ref (x + 1), .ref (x + 3), .ref (x + 16), .ref (x + 18), .ref (x + 124), .ref (x + 125)]))) (g3 : hp0 (x + 3) = some (.inr (2, [.ref (x + 4), .ref (x + 7), .ref (x + 10), .ref (x + 13), .int sd, .int mn, .int th]))) (g7 : hp0 (x + 7) = some (.inr (7, [.ref (x + 8), .ref (x + 9), .int pc]))) (g8 : hp0 (x + 8) = some (.inl (kC E 0, 6, .inl ln))) (g9 : hp0 (x + 9) = some (.inl (kC E 0, 24, .inl lt))) : f_X10_nameByte_L24 pc ln lt = some out → AW E p l e ⟨8, 2, 12, 124⟩ s m args below meth c 3 (vx_MQ below (kQc E (P_X10_nameByte E x hp0 al out)) (kXC E (kThr out hp0)) args s 2 12 (kA E)) hp0 al 1 6 24 [] [] := by
  intro  h
  unfold f_X10_nameByte_L24 at h
  cases h
  exact A_throwS9 (Y0 := "java/lang/RuntimeException") (names := ["java/lang/Exception"]) X htb v9_d0 v9_d1 v9_d2 v9_d5 (by decide +kernel) (by decide +kernel) (by decide +kernel) kw_1033 kw_26 (List.mem_of_getElem? (i := 20) rfl) xa_X10_180 xg_X10_180 dX10_nameByte_24 dX10_nameByte_27 dX10_nameByte_28 dX10_nameByte_30 dX10_nameByte_33 (Nat.le_of_ble_eq_true rfl) (Nat.le_of_ble_eq_true rfl) (Nat.le_of_ble_eq_true rfl) (Nat.le_of_ble_eq_true rfl) ⟨rfl, rfl⟩ (Nat.le_of_ble_eq_true rfl) (Nat.le_of_ble_eq_true rfl)
def f_X10_nameByte (pc : Int32) (ln : Nat → Int32) (lt : Nat → Int32) (a0 : Int32) (a1 : Int32) : Option (String ⊕ (Int32)) :=
  sbd (f_X10_requirePlayer pc a0) fun t1 =>
  if a1 < 0 then
    f_X10_nameByte_L24 pc ln lt
  else
    (f_X7_nameLength ln a0).bind fun t2 =>
    if a1 < t2 then
      (f_X7_letter lt a0 a1).bind fun t3 =>
      some (.inr t3)
    else
      f_X10_nameByte_L24 pc ln lt
set_option maxHeartbeats 4000000 in
set_option maxRecDepth 100000 in
theorem c_X10_nameByte {E : KE} {l : Launch} {hp : Hp} {al : Option Nat} {x : Nat} {sd : Int32} {mn : Int32} {th : Int32} {pc : Int32} {ln : Nat → Int32} {lt : Nat → Int32} {a0 : Int32} {a1 : Int32} {out : String ⊕ (Int32)} (g0 : hp x = some (.inr (10, [.ref (x + 126), .ref (x + 128), .ref (x + 1), .ref (x + 3), .ref (x + 16), .ref (x + 18), .ref (x + 124), .ref (x + 125)]))) (g3 : hp (x + 3) = some (.inr (2, [.ref (x + 4), .ref (x + 7), .ref (x + 10), .ref (x + 13), .int sd, .int mn, .int th]))) (g7 : hp (x + 7) = some (.inr (7, [.ref (x + 8), .ref (x + 9), .int pc]))) (g8 : hp (x + 8) = some (.inl (kC E 0, 6, .inl ln))) (g9 : hp (x + 9) = some (.inl (kC E 0, 24, .inl lt)))  (h : f_X10_nameByte pc ln lt a0 a1 = some out) : AX E l yX10_nameByte cX10_nameByte 3 (Option.some Jvm.ClassFile.FieldType.int) ⟨8, 2, 12, 124⟩ [.ref x, .int a0, .int a1] hp al (P_X10_nameByte E x hp al out) (kThr out hp) := by
  refine A_ofX (by decide +kernel) (Nat.le_of_ble_eq_true rfl) ?_
  intro p e s m args below meth c X hr htb
  have X : CX E p l s m args meth c "DiceAudit" cX10_nameByte 3 := X
  refine A_L (L' := [(0, .ref x), (1, .int a0), (2, .int a1)]) rfl ?_
  unfold f_X10_nameByte at h
  refine A_aload_n X dX10_nameByte_0 0 rfl ?_
  refine A_iload_n X dX10_nameByte_1 1 rfl ?_
  rcases sbd_o h with ⟨c9, hc9, rfl⟩ | ⟨t1, hct1, h⟩
  · exact A_cX (k' := 1) (n' := 6) rfl rfl (A_runVX (rest := []) X dX10_nameByte_2 (c_X10_requirePlayer g0 g3 g7  hc9) kY_X10_requirePlayer kw_1029 g0 rfl rfl ⟨(Nat.le_of_ble_eq_true rfl), (Nat.le_of_ble_eq_true rfl), (Nat.le_of_ble_eq_true rfl), (Nat.le_of_ble_eq_true rfl)⟩ rfl (Nat.le_of_ble_eq_true rfl)) (fun C hp1 hP => by obtain ⟨hC, rfl⟩ := hP; cases hC; exact A_out X htb ⟨rfl, rfl⟩ (Nat.le_of_ble_eq_true rfl) (Nat.le_of_ble_eq_true rfl)) (fun v hp1 al1 hP => by obtain ⟨u, hu, _⟩ := hP; cases hu)
  refine A_cX (k' := 1) (n' := 6) rfl rfl (A_runVX (rest := []) X dX10_nameByte_2 (c_X10_requirePlayer g0 g3 g7  hct1) kY_X10_requirePlayer kw_1029 g0 rfl rfl ⟨(Nat.le_of_ble_eq_true rfl), (Nat.le_of_ble_eq_true rfl), (Nat.le_of_ble_eq_true rfl), (Nat.le_of_ble_eq_true rfl)⟩ rfl (Nat.le_of_ble_eq_true rfl)) (fun C hp1 hP => by obtain ⟨hC, _⟩ := hP; cases hC) (fun v9 hp1 al9 hP => ?_)
  obtain ⟨u9, hu9, rfl, rfl, rfl⟩ := hP
  cases hu9
  refine A_st (st' := []) rfl ?_
  refine A_iload_n X dX10_nameByte_5 2 rfl ?_
  refine A_if_lt (tgt := 24) X dX10_nameByte_6 h (by decide) (fun hc h => ?_) (fun hc h => ?_)
  · refine A_sub (L' := []) [] rfl ?_
    exact c_X10_nameByte_L24 X hr htb g0 g3 g7 g8 g9  h
  · refine A_iload_n X dX10_nameByte_9 2 rfl ?_
    refine A_aload_n X dX10_nameByte_10 0 rfl ?_
    refine A_get X dX10_nameByte_11 kcl_X10 3 (by decide) kw_654 g0 rfl ?_
    refine A_get X dX10_nameByte_14 kcl_X2 1 (by decide) kw_145 g3 rfl ?_
    refine A_iload_n X dX10_nameByte_17 1 rfl ?_
    obtain ⟨t2, hct2, h⟩ := bind_o h
    refine A_cp (k' := 1) (n' := 6) (A_runV (rest := [.int a1]) X dX10_nameByte_18 (c_X7_nameLength g7 g8  hct2) kY_X7_nameLength kw_817 g7 rfl rfl ⟨(Nat.le_of_ble_eq_true rfl), (Nat.le_of_ble_eq_true rfl), (Nat.le_of_ble_eq_true rfl), (Nat.le_of_ble_eq_true rfl)⟩ rfl (Nat.le_of_ble_eq_true rfl)) rfl rfl ?_
    refine A_icmp_lt (tgt := 34) X dX10_nameByte_21 h (by decide) (fun hc h => ?_) (fun hc h => ?_)
    · refine A_aload_n X dX10_nameByte_34 0 rfl ?_
      refine A_get X dX10_nameByte_35 kcl_X10 3 (by decide) kw_654 g0 rfl ?_
      refine A_get X dX10_nameByte_38 kcl_X2 1 (by decide) kw_145 g3 rfl ?_
      refine A_iload_n X dX10_nameByte_41 1 rfl ?_
      refine A_iload_n X dX10_nameByte_42 2 rfl ?_
      obtain ⟨t3, hct3, h⟩ := bind_o h
      refine A_cp (k' := 1) (n' := 6) (A_runV (rest := []) X dX10_nameByte_43 (c_X7_letter g7 g9  hct3) kY_X7_letter kw_821 g7 rfl rfl ⟨(Nat.le_of_ble_eq_true rfl), (Nat.le_of_ble_eq_true rfl), (Nat.le_of_ble_eq_true rfl), (Nat.le_of_ble_eq_true rfl)⟩ rfl (Nat.le_of_ble_eq_true rfl)) rfl rfl ?_
      cases h
      exact A_iretX X dX10_nameByte_46 hr ⟨_, rfl, rfl, rfl, rfl⟩ (Nat.le_of_ble_eq_true rfl) (Nat.le_of_ble_eq_true rfl)
    · refine A_sub (L' := []) [] rfl ?_
      exact c_X10_nameByte_L24 X hr htb g0 g3 g7 g8 g9  h
abbrev P_X10_requireThrow (E : KE) (x : Nat)  (hp : Hp) (al : Option Nat) (out : String ⊕ (Unit)) : Option Value → Hp → Option Nat → Prop := fun v0 hp' al' => ∃ u, out = .inr u ∧ v0 = none ∧ hp = hp' ∧ al = al'
def f_X10_requireThrow (tc : Int32) (a0 : Int32) : Option (String ⊕ (Unit)) :=
  sbd (f_X10_requireIndex a0 tc) fun t1 =>
  some (.inr ())
set_option maxHeartbeats 4000000 in
set_option maxRecDepth 100000 in
theorem c_X10_requireThrow {E : KE} {l : Launch} {hp : Hp} {al : Option Nat} {x : Nat} {sd : Int32} {mn : Int32} {th : Int32} {tc : Int32} {a0 : Int32} {out : String ⊕ (Unit)} (g0 : hp x = some (.inr (10, [.ref (x + 126), .ref (x + 128), .ref (x + 1), .ref (x + 3), .ref (x + 16), .ref (x + 18), .ref (x + 124), .ref (x + 125)]))) (g3 : hp (x + 3) = some (.inr (2, [.ref (x + 4), .ref (x + 7), .ref (x + 10), .ref (x + 13), .int sd, .int mn, .int th]))) (g10 : hp (x + 10) = some (.inr (4, [.ref (x + 11), .ref (x + 12), .int tc])))  (h : f_X10_requireThrow tc a0 = some out) : AX E l yX10_requireThrow cX10_requireThrow 2 (Option.none : Option Jvm.ClassFile.FieldType) ⟨7, 1, 6, 103⟩ [.ref x, .int a0] hp al (P_X10_requireThrow E x hp al out) (kThr out hp) := by
  refine A_ofX (by decide +kernel) (Nat.le_of_ble_eq_true rfl) ?_
  intro p e s m args below meth c X hr htb
  have X : CX E p l s m args meth c "DiceAudit" cX10_requireThrow 2 := X
  refine A_L (L' := [(0, .ref x), (1, .int a0)]) rfl ?_
  unfold f_X10_requireThrow at h
  refine A_iload_n X dX10_requireThrow_0 1 rfl ?_
  refine A_aload_n X dX10_requireThrow_1 0 rfl ?_
  refine A_get X dX10_requireThrow_2 kcl_X10 3 (by decide) kw_654 g0 rfl ?_
  refine A_get X dX10_requireThrow_5 kcl_X2 2 (by decide) kw_148 g3 rfl ?_
  refine A_get X dX10_requireThrow_8 kcl_X4 2 (by decide) kw_107 g10 rfl ?_
  rcases sbd_o h with ⟨c9, hc9, rfl⟩ | ⟨t1, hct1, h⟩
  · exact A_cX (k' := 1) (n' := 6) rfl rfl (A_runSX (rest := []) X dX10_requireThrow_11 (c_X10_requireIndex   hc9) kY_X10_requireIndex kw_962 ⟨(Nat.le_of_ble_eq_true rfl), (Nat.le_of_ble_eq_true rfl), (Nat.le_of_ble_eq_true rfl), (Nat.le_of_ble_eq_true rfl)⟩ rfl (Nat.le_of_ble_eq_true rfl)) (fun C hp1 hP => by obtain ⟨hC, rfl⟩ := hP; cases hC; exact A_out X htb ⟨rfl, rfl⟩ (Nat.le_of_ble_eq_true rfl) (Nat.le_of_ble_eq_true rfl)) (fun v hp1 al1 hP => by obtain ⟨u, hu, _⟩ := hP; cases hu)
  refine A_cX (k' := 1) (n' := 6) rfl rfl (A_runSX (rest := []) X dX10_requireThrow_11 (c_X10_requireIndex   hct1) kY_X10_requireIndex kw_962 ⟨(Nat.le_of_ble_eq_true rfl), (Nat.le_of_ble_eq_true rfl), (Nat.le_of_ble_eq_true rfl), (Nat.le_of_ble_eq_true rfl)⟩ rfl (Nat.le_of_ble_eq_true rfl)) (fun C hp1 hP => by obtain ⟨hC, _⟩ := hP; cases hC) (fun v9 hp1 al9 hP => ?_)
  obtain ⟨u9, hu9, rfl, rfl, rfl⟩ := hP
  cases hu9
  refine A_st (st' := []) rfl ?_
  cases h
  exact A_vretX X dX10_requireThrow_14 hr ⟨_, rfl, rfl, rfl, rfl⟩ (Nat.le_of_ble_eq_true rfl) (Nat.le_of_ble_eq_true rfl)
abbrev P_X10_playerAt (E : KE) (x : Nat)  (hp : Hp) (al : Option Nat) (out : String ⊕ (Int32)) : Option Value → Hp → Option Nat → Prop := fun v0 hp' al' => ∃ u, out = .inr u ∧ v0 = some (.int u) ∧ hp = hp' ∧ al = al'
def f_X10_playerAt (tc : Int32) (en : Nat → Int32) (a0 : Int32) : Option (String ⊕ (Int32)) :=
  sbd (f_X10_requireThrow tc a0) fun t1 =>
  (f_X4_pairIn en a0).bind fun t2 =>
  (f_X10_playerOf t2).bind fun t3 =>
  some (.inr t3)
set_option maxHeartbeats 4000000 in
set_option maxRecDepth 100000 in
theorem c_X10_playerAt {E : KE} {l : Launch} {hp : Hp} {al : Option Nat} {x : Nat} {sd : Int32} {mn : Int32} {th : Int32} {tc : Int32} {en : Nat → Int32} {a0 : Int32} {out : String ⊕ (Int32)} (g0 : hp x = some (.inr (10, [.ref (x + 126), .ref (x + 128), .ref (x + 1), .ref (x + 3), .ref (x + 16), .ref (x + 18), .ref (x + 124), .ref (x + 125)]))) (g3 : hp (x + 3) = some (.inr (2, [.ref (x + 4), .ref (x + 7), .ref (x + 10), .ref (x + 13), .int sd, .int mn, .int th]))) (g10 : hp (x + 10) = some (.inr (4, [.ref (x + 11), .ref (x + 12), .int tc]))) (g11 : hp (x + 11) = some (.inl (kC E 0, 300, .inl en)))  (h : f_X10_playerAt tc en a0 = some out) : AX E l yX10_playerAt cX10_playerAt 2 (Option.some Jvm.ClassFile.FieldType.int) ⟨8, 1, 6, 124⟩ [.ref x, .int a0] hp al (P_X10_playerAt E x hp al out) (kThr out hp) := by
  refine A_ofX (by decide +kernel) (Nat.le_of_ble_eq_true rfl) ?_
  intro p e s m args below meth c X hr htb
  have X : CX E p l s m args meth c "DiceAudit" cX10_playerAt 2 := X
  refine A_L (L' := [(0, .ref x), (1, .int a0)]) rfl ?_
  unfold f_X10_playerAt at h
  refine A_aload_n X dX10_playerAt_0 0 rfl ?_
  refine A_iload_n X dX10_playerAt_1 1 rfl ?_
  rcases sbd_o h with ⟨c9, hc9, rfl⟩ | ⟨t1, hct1, h⟩
  · exact A_cX (k' := 1) (n' := 6) rfl rfl (A_runVX (rest := []) X dX10_playerAt_2 (c_X10_requireThrow g0 g3 g10  hc9) kY_X10_requireThrow kw_1056 g0 rfl rfl ⟨(Nat.le_of_ble_eq_true rfl), (Nat.le_of_ble_eq_true rfl), (Nat.le_of_ble_eq_true rfl), (Nat.le_of_ble_eq_true rfl)⟩ rfl (Nat.le_of_ble_eq_true rfl)) (fun C hp1 hP => by obtain ⟨hC, rfl⟩ := hP; cases hC; exact A_out X htb ⟨rfl, rfl⟩ (Nat.le_of_ble_eq_true rfl) (Nat.le_of_ble_eq_true rfl)) (fun v hp1 al1 hP => by obtain ⟨u, hu, _⟩ := hP; cases hu)
  refine A_cX (k' := 1) (n' := 6) rfl rfl (A_runVX (rest := []) X dX10_playerAt_2 (c_X10_requireThrow g0 g3 g10  hct1) kY_X10_requireThrow kw_1056 g0 rfl rfl ⟨(Nat.le_of_ble_eq_true rfl), (Nat.le_of_ble_eq_true rfl), (Nat.le_of_ble_eq_true rfl), (Nat.le_of_ble_eq_true rfl)⟩ rfl (Nat.le_of_ble_eq_true rfl)) (fun C hp1 hP => by obtain ⟨hC, _⟩ := hP; cases hC) (fun v9 hp1 al9 hP => ?_)
  obtain ⟨u9, hu9, rfl, rfl, rfl⟩ := hP
  cases hu9
  refine A_st (st' := []) rfl ?_
  refine A_aload_n X dX10_playerAt_5 0 rfl ?_
  refine A_get X dX10_playerAt_6 kcl_X10 3 (by decide) kw_654 g0 rfl ?_
  refine A_get X dX10_playerAt_9 kcl_X2 2 (by decide) kw_148 g3 rfl ?_
  refine A_iload_n X dX10_playerAt_12 1 rfl ?_
  obtain ⟨t2, hct2, h⟩ := bind_o h
  refine A_cp (k' := 1) (n' := 6) (A_runV (rest := []) X dX10_playerAt_13 (c_X4_pairIn g10 g11  hct2) kY_X4_pairIn kw_1060 g10 rfl rfl ⟨(Nat.le_of_ble_eq_true rfl), (Nat.le_of_ble_eq_true rfl), (Nat.le_of_ble_eq_true rfl), (Nat.le_of_ble_eq_true rfl)⟩ rfl (Nat.le_of_ble_eq_true rfl)) rfl rfl ?_
  obtain ⟨t3, hct3, h⟩ := bind_o h
  refine A_cp (k' := 1) (n' := 6) (A_runS (rest := []) X dX10_playerAt_16 (c_X10_playerOf   hct3) kY_X10_playerOf kw_734 ⟨(Nat.le_of_ble_eq_true rfl), (Nat.le_of_ble_eq_true rfl), (Nat.le_of_ble_eq_true rfl), (Nat.le_of_ble_eq_true rfl)⟩ rfl (Nat.le_of_ble_eq_true rfl)) rfl rfl ?_
  cases h
  exact A_iretX X dX10_playerAt_19 hr ⟨_, rfl, rfl, rfl, rfl⟩ (Nat.le_of_ble_eq_true rfl) (Nat.le_of_ble_eq_true rfl)
abbrev P_X10_dieAt (E : KE) (x : Nat)  (hp : Hp) (al : Option Nat) (out : String ⊕ (Int32)) : Option Value → Hp → Option Nat → Prop := fun v0 hp' al' => ∃ u, out = .inr u ∧ v0 = some (.int u) ∧ hp = hp' ∧ al = al'
def f_X10_dieAt (tc : Int32) (en : Nat → Int32) (a0 : Int32) : Option (String ⊕ (Int32)) :=
  sbd (f_X10_requireThrow tc a0) fun t1 =>
  (f_X4_pairIn en a0).bind fun t2 =>
  (f_X10_dieOf t2).bind fun t3 =>
  some (.inr t3)
set_option maxHeartbeats 4000000 in
set_option maxRecDepth 100000 in
theorem c_X10_dieAt {E : KE} {l : Launch} {hp : Hp} {al : Option Nat} {x : Nat} {sd : Int32} {mn : Int32} {th : Int32} {tc : Int32} {en : Nat → Int32} {a0 : Int32} {out : String ⊕ (Int32)} (g0 : hp x = some (.inr (10, [.ref (x + 126), .ref (x + 128), .ref (x + 1), .ref (x + 3), .ref (x + 16), .ref (x + 18), .ref (x + 124), .ref (x + 125)]))) (g3 : hp (x + 3) = some (.inr (2, [.ref (x + 4), .ref (x + 7), .ref (x + 10), .ref (x + 13), .int sd, .int mn, .int th]))) (g10 : hp (x + 10) = some (.inr (4, [.ref (x + 11), .ref (x + 12), .int tc]))) (g11 : hp (x + 11) = some (.inl (kC E 0, 300, .inl en)))  (h : f_X10_dieAt tc en a0 = some out) : AX E l yX10_dieAt cX10_dieAt 2 (Option.some Jvm.ClassFile.FieldType.int) ⟨8, 1, 6, 124⟩ [.ref x, .int a0] hp al (P_X10_dieAt E x hp al out) (kThr out hp) := by
  refine A_ofX (by decide +kernel) (Nat.le_of_ble_eq_true rfl) ?_
  intro p e s m args below meth c X hr htb
  have X : CX E p l s m args meth c "DiceAudit" cX10_dieAt 2 := X
  refine A_L (L' := [(0, .ref x), (1, .int a0)]) rfl ?_
  unfold f_X10_dieAt at h
  refine A_aload_n X dX10_dieAt_0 0 rfl ?_
  refine A_iload_n X dX10_dieAt_1 1 rfl ?_
  rcases sbd_o h with ⟨c9, hc9, rfl⟩ | ⟨t1, hct1, h⟩
  · exact A_cX (k' := 1) (n' := 6) rfl rfl (A_runVX (rest := []) X dX10_dieAt_2 (c_X10_requireThrow g0 g3 g10  hc9) kY_X10_requireThrow kw_1056 g0 rfl rfl ⟨(Nat.le_of_ble_eq_true rfl), (Nat.le_of_ble_eq_true rfl), (Nat.le_of_ble_eq_true rfl), (Nat.le_of_ble_eq_true rfl)⟩ rfl (Nat.le_of_ble_eq_true rfl)) (fun C hp1 hP => by obtain ⟨hC, rfl⟩ := hP; cases hC; exact A_out X htb ⟨rfl, rfl⟩ (Nat.le_of_ble_eq_true rfl) (Nat.le_of_ble_eq_true rfl)) (fun v hp1 al1 hP => by obtain ⟨u, hu, _⟩ := hP; cases hu)
  refine A_cX (k' := 1) (n' := 6) rfl rfl (A_runVX (rest := []) X dX10_dieAt_2 (c_X10_requireThrow g0 g3 g10  hct1) kY_X10_requireThrow kw_1056 g0 rfl rfl ⟨(Nat.le_of_ble_eq_true rfl), (Nat.le_of_ble_eq_true rfl), (Nat.le_of_ble_eq_true rfl), (Nat.le_of_ble_eq_true rfl)⟩ rfl (Nat.le_of_ble_eq_true rfl)) (fun C hp1 hP => by obtain ⟨hC, _⟩ := hP; cases hC) (fun v9 hp1 al9 hP => ?_)
  obtain ⟨u9, hu9, rfl, rfl, rfl⟩ := hP
  cases hu9
  refine A_st (st' := []) rfl ?_
  refine A_aload_n X dX10_dieAt_5 0 rfl ?_
  refine A_get X dX10_dieAt_6 kcl_X10 3 (by decide) kw_654 g0 rfl ?_
  refine A_get X dX10_dieAt_9 kcl_X2 2 (by decide) kw_148 g3 rfl ?_
  refine A_iload_n X dX10_dieAt_12 1 rfl ?_
  obtain ⟨t2, hct2, h⟩ := bind_o h
  refine A_cp (k' := 1) (n' := 6) (A_runV (rest := []) X dX10_dieAt_13 (c_X4_pairIn g10 g11  hct2) kY_X4_pairIn kw_1060 g10 rfl rfl ⟨(Nat.le_of_ble_eq_true rfl), (Nat.le_of_ble_eq_true rfl), (Nat.le_of_ble_eq_true rfl), (Nat.le_of_ble_eq_true rfl)⟩ rfl (Nat.le_of_ble_eq_true rfl)) rfl rfl ?_
  obtain ⟨t3, hct3, h⟩ := bind_o h
  refine A_cp (k' := 1) (n' := 6) (A_runS (rest := []) X dX10_dieAt_16 (c_X10_dieOf   hct3) kY_X10_dieOf kw_735 ⟨(Nat.le_of_ble_eq_true rfl), (Nat.le_of_ble_eq_true rfl), (Nat.le_of_ble_eq_true rfl), (Nat.le_of_ble_eq_true rfl)⟩ rfl (Nat.le_of_ble_eq_true rfl)) rfl rfl ?_
  cases h
  exact A_iretX X dX10_dieAt_19 hr ⟨_, rfl, rfl, rfl, rfl⟩ (Nat.le_of_ble_eq_true rfl) (Nat.le_of_ble_eq_true rfl)
abbrev P_X10_faceAt (E : KE) (x : Nat)  (hp : Hp) (al : Option Nat) (out : String ⊕ (Int32)) : Option Value → Hp → Option Nat → Prop := fun v0 hp' al' => ∃ u, out = .inr u ∧ v0 = some (.int u) ∧ hp = hp' ∧ al = al'
def f_X10_faceAt (tc : Int32) (en : Nat → Int32) (a0 : Int32) : Option (String ⊕ (Int32)) :=
  sbd (f_X10_requireThrow tc a0) fun t1 =>
  (f_X4_faceIn en a0).bind fun t2 =>
  some (.inr t2)
set_option maxHeartbeats 4000000 in
set_option maxRecDepth 100000 in
theorem c_X10_faceAt {E : KE} {l : Launch} {hp : Hp} {al : Option Nat} {x : Nat} {sd : Int32} {mn : Int32} {th : Int32} {tc : Int32} {en : Nat → Int32} {a0 : Int32} {out : String ⊕ (Int32)} (g0 : hp x = some (.inr (10, [.ref (x + 126), .ref (x + 128), .ref (x + 1), .ref (x + 3), .ref (x + 16), .ref (x + 18), .ref (x + 124), .ref (x + 125)]))) (g3 : hp (x + 3) = some (.inr (2, [.ref (x + 4), .ref (x + 7), .ref (x + 10), .ref (x + 13), .int sd, .int mn, .int th]))) (g10 : hp (x + 10) = some (.inr (4, [.ref (x + 11), .ref (x + 12), .int tc]))) (g11 : hp (x + 11) = some (.inl (kC E 0, 300, .inl en)))  (h : f_X10_faceAt tc en a0 = some out) : AX E l yX10_faceAt cX10_faceAt 2 (Option.some Jvm.ClassFile.FieldType.int) ⟨8, 1, 6, 124⟩ [.ref x, .int a0] hp al (P_X10_faceAt E x hp al out) (kThr out hp) := by
  refine A_ofX (by decide +kernel) (Nat.le_of_ble_eq_true rfl) ?_
  intro p e s m args below meth c X hr htb
  have X : CX E p l s m args meth c "DiceAudit" cX10_faceAt 2 := X
  refine A_L (L' := [(0, .ref x), (1, .int a0)]) rfl ?_
  unfold f_X10_faceAt at h
  refine A_aload_n X dX10_faceAt_0 0 rfl ?_
  refine A_iload_n X dX10_faceAt_1 1 rfl ?_
  rcases sbd_o h with ⟨c9, hc9, rfl⟩ | ⟨t1, hct1, h⟩
  · exact A_cX (k' := 1) (n' := 6) rfl rfl (A_runVX (rest := []) X dX10_faceAt_2 (c_X10_requireThrow g0 g3 g10  hc9) kY_X10_requireThrow kw_1056 g0 rfl rfl ⟨(Nat.le_of_ble_eq_true rfl), (Nat.le_of_ble_eq_true rfl), (Nat.le_of_ble_eq_true rfl), (Nat.le_of_ble_eq_true rfl)⟩ rfl (Nat.le_of_ble_eq_true rfl)) (fun C hp1 hP => by obtain ⟨hC, rfl⟩ := hP; cases hC; exact A_out X htb ⟨rfl, rfl⟩ (Nat.le_of_ble_eq_true rfl) (Nat.le_of_ble_eq_true rfl)) (fun v hp1 al1 hP => by obtain ⟨u, hu, _⟩ := hP; cases hu)
  refine A_cX (k' := 1) (n' := 6) rfl rfl (A_runVX (rest := []) X dX10_faceAt_2 (c_X10_requireThrow g0 g3 g10  hct1) kY_X10_requireThrow kw_1056 g0 rfl rfl ⟨(Nat.le_of_ble_eq_true rfl), (Nat.le_of_ble_eq_true rfl), (Nat.le_of_ble_eq_true rfl), (Nat.le_of_ble_eq_true rfl)⟩ rfl (Nat.le_of_ble_eq_true rfl)) (fun C hp1 hP => by obtain ⟨hC, _⟩ := hP; cases hC) (fun v9 hp1 al9 hP => ?_)
  obtain ⟨u9, hu9, rfl, rfl, rfl⟩ := hP
  cases hu9
  refine A_st (st' := []) rfl ?_
  refine A_aload_n X dX10_faceAt_5 0 rfl ?_
  refine A_get X dX10_faceAt_6 kcl_X10 3 (by decide) kw_654 g0 rfl ?_
  refine A_get X dX10_faceAt_9 kcl_X2 2 (by decide) kw_148 g3 rfl ?_
  refine A_iload_n X dX10_faceAt_12 1 rfl ?_
  obtain ⟨t2, hct2, h⟩ := bind_o h
  refine A_cp (k' := 1) (n' := 6) (A_runV (rest := []) X dX10_faceAt_13 (c_X4_faceIn g10 g11  hct2) kY_X4_faceIn kw_1075 g10 rfl rfl ⟨(Nat.le_of_ble_eq_true rfl), (Nat.le_of_ble_eq_true rfl), (Nat.le_of_ble_eq_true rfl), (Nat.le_of_ble_eq_true rfl)⟩ rfl (Nat.le_of_ble_eq_true rfl)) rfl rfl ?_
  cases h
  exact A_iretX X dX10_faceAt_16 hr ⟨_, rfl, rfl, rfl, rfl⟩ (Nat.le_of_ble_eq_true rfl) (Nat.le_of_ble_eq_true rfl)
abbrev P_X10_isFairAt (E : KE) (x : Nat)  (hp : Hp) (al : Option Nat) (out : String ⊕ (Int32)) : Option Value → Hp → Option Nat → Prop := fun v0 hp' al' => ∃ u, out = .inr u ∧ v0 = some (.int u) ∧ (u = 0 ∨ u = 1) ∧ hp = hp' ∧ al = al'
def f_X10_isFairAt (tc : Int32) (en : Nat → Int32) (a0 : Int32) : Option (String ⊕ (Int32)) :=
  sbd (f_X10_requireThrow tc a0) fun t1 =>
  (f_X4_isMarked en a0).bind fun t2 =>
  some (.inr t2)
set_option maxHeartbeats 4000000 in
set_option maxRecDepth 100000 in
theorem c_X10_isFairAt {E : KE} {l : Launch} {hp : Hp} {al : Option Nat} {x : Nat} {sd : Int32} {mn : Int32} {th : Int32} {tc : Int32} {en : Nat → Int32} {a0 : Int32} {out : String ⊕ (Int32)} (g0 : hp x = some (.inr (10, [.ref (x + 126), .ref (x + 128), .ref (x + 1), .ref (x + 3), .ref (x + 16), .ref (x + 18), .ref (x + 124), .ref (x + 125)]))) (g3 : hp (x + 3) = some (.inr (2, [.ref (x + 4), .ref (x + 7), .ref (x + 10), .ref (x + 13), .int sd, .int mn, .int th]))) (g10 : hp (x + 10) = some (.inr (4, [.ref (x + 11), .ref (x + 12), .int tc]))) (g11 : hp (x + 11) = some (.inl (kC E 0, 300, .inl en)))  (h : f_X10_isFairAt tc en a0 = some out) : AX E l yX10_isFairAt cX10_isFairAt 2 (Option.some Jvm.ClassFile.FieldType.boolean) ⟨8, 1, 6, 124⟩ [.ref x, .int a0] hp al (P_X10_isFairAt E x hp al out) (kThr out hp) := by
  refine A_ofX (by decide +kernel) (Nat.le_of_ble_eq_true rfl) ?_
  intro p e s m args below meth c X hr htb
  have X : CX E p l s m args meth c "DiceAudit" cX10_isFairAt 2 := X
  refine A_L (L' := [(0, .ref x), (1, .int a0)]) rfl ?_
  unfold f_X10_isFairAt at h
  refine A_aload_n X dX10_isFairAt_0 0 rfl ?_
  refine A_iload_n X dX10_isFairAt_1 1 rfl ?_
  rcases sbd_o h with ⟨c9, hc9, rfl⟩ | ⟨t1, hct1, h⟩
  · exact A_cX (k' := 1) (n' := 6) rfl rfl (A_runVX (rest := []) X dX10_isFairAt_2 (c_X10_requireThrow g0 g3 g10  hc9) kY_X10_requireThrow kw_1056 g0 rfl rfl ⟨(Nat.le_of_ble_eq_true rfl), (Nat.le_of_ble_eq_true rfl), (Nat.le_of_ble_eq_true rfl), (Nat.le_of_ble_eq_true rfl)⟩ rfl (Nat.le_of_ble_eq_true rfl)) (fun C hp1 hP => by obtain ⟨hC, rfl⟩ := hP; cases hC; exact A_out X htb ⟨rfl, rfl⟩ (Nat.le_of_ble_eq_true rfl) (Nat.le_of_ble_eq_true rfl)) (fun v hp1 al1 hP => by obtain ⟨u, hu, _⟩ := hP; cases hu)
  refine A_cX (k' := 1) (n' := 6) rfl rfl (A_runVX (rest := []) X dX10_isFairAt_2 (c_X10_requireThrow g0 g3 g10  hct1) kY_X10_requireThrow kw_1056 g0 rfl rfl ⟨(Nat.le_of_ble_eq_true rfl), (Nat.le_of_ble_eq_true rfl), (Nat.le_of_ble_eq_true rfl), (Nat.le_of_ble_eq_true rfl)⟩ rfl (Nat.le_of_ble_eq_true rfl)) (fun C hp1 hP => by obtain ⟨hC, _⟩ := hP; cases hC) (fun v9 hp1 al9 hP => ?_)
  obtain ⟨u9, hu9, rfl, rfl, rfl⟩ := hP
  cases hu9
  refine A_st (st' := []) rfl ?_
  refine A_aload_n X dX10_isFairAt_5 0 rfl ?_
  refine A_get X dX10_isFairAt_6 kcl_X10 3 (by decide) kw_654 g0 rfl ?_
  refine A_get X dX10_isFairAt_9 kcl_X2 2 (by decide) kw_148 g3 rfl ?_
  refine A_iload_n X dX10_isFairAt_12 1 rfl ?_
  obtain ⟨t2, hct2, h⟩ := bind_o h
  refine A_c (k' := 1) (n' := 6) rfl rfl (A_runV (rest := []) X dX10_isFairAt_13 (c_X4_isMarked g10 g11  hct2) kY_X4_isMarked kw_1083 g10 rfl rfl ⟨(Nat.le_of_ble_eq_true rfl), (Nat.le_of_ble_eq_true rfl), (Nat.le_of_ble_eq_true rfl), (Nat.le_of_ble_eq_true rfl)⟩ rfl (Nat.le_of_ble_eq_true rfl)) (fun v9 hp1 al9 hP => ?_)
  obtain ⟨rfl, zt2, rfl, rfl⟩ := hP
  refine A_st (st' := [.int t2]) rfl ?_
  cases h
  exact A_zretX X dX10_isFairAt_16 hr zt2 ⟨_, rfl, rfl, zt2, rfl, rfl⟩ (Nat.le_of_ble_eq_true rfl) (Nat.le_of_ble_eq_true rfl)
abbrev P_X10_throwsOf (E : KE) (x : Nat)  (hp : Hp) (al : Option Nat) (out : String ⊕ (Int32)) : Option Value → Hp → Option Nat → Prop := fun v0 hp' al' => ∃ u, out = .inr u ∧ v0 = some (.int u) ∧ hp = hp' ∧ al = al'
def f_X10_throwsOf (N : Nat) (pc : Int32) (fr : Nat → Int32) (a0 : Int32) : Option (String ⊕ (Int32)) :=
  sbd (f_X10_requirePlayer pc a0) fun t1 =>
  (f_X4_playerThrows N fr a0).bind fun t2 =>
  some (.inr t2)
set_option maxHeartbeats 4000000 in
set_option maxRecDepth 100000 in
theorem c_X10_throwsOf {E : KE} {l : Launch} {hp : Hp} {al : Option Nat} {N : Nat} {x : Nat} {sd : Int32} {mn : Int32} {th : Int32} {pc : Int32} {tc : Int32} {fr : Nat → Int32} {a0 : Int32} {out : String ⊕ (Int32)} (g0 : hp x = some (.inr (10, [.ref (x + 126), .ref (x + 128), .ref (x + 1), .ref (x + 3), .ref (x + 16), .ref (x + 18), .ref (x + 124), .ref (x + 125)]))) (g3 : hp (x + 3) = some (.inr (2, [.ref (x + 4), .ref (x + 7), .ref (x + 10), .ref (x + 13), .int sd, .int mn, .int th]))) (g7 : hp (x + 7) = some (.inr (7, [.ref (x + 8), .ref (x + 9), .int pc]))) (g10 : hp (x + 10) = some (.inr (4, [.ref (x + 11), .ref (x + 12), .int tc]))) (g12 : hp (x + 12) = some (.inl (kC E 0, 432, .inl fr)))  (h : f_X10_throwsOf N pc fr a0 = some out) : AX E l yX10_throwsOf cX10_throwsOf 2 (Option.some Jvm.ClassFile.FieldType.int) ⟨8, 1, 6, 124⟩ [.ref x, .int a0] hp al (P_X10_throwsOf E x hp al out) (kThr out hp) := by
  refine A_ofX (by decide +kernel) (Nat.le_of_ble_eq_true rfl) ?_
  intro p e s m args below meth c X hr htb
  have X : CX E p l s m args meth c "DiceAudit" cX10_throwsOf 2 := X
  refine A_L (L' := [(0, .ref x), (1, .int a0)]) rfl ?_
  unfold f_X10_throwsOf at h
  refine A_aload_n X dX10_throwsOf_0 0 rfl ?_
  refine A_iload_n X dX10_throwsOf_1 1 rfl ?_
  rcases sbd_o h with ⟨c9, hc9, rfl⟩ | ⟨t1, hct1, h⟩
  · exact A_cX (k' := 1) (n' := 6) rfl rfl (A_runVX (rest := []) X dX10_throwsOf_2 (c_X10_requirePlayer g0 g3 g7  hc9) kY_X10_requirePlayer kw_1029 g0 rfl rfl ⟨(Nat.le_of_ble_eq_true rfl), (Nat.le_of_ble_eq_true rfl), (Nat.le_of_ble_eq_true rfl), (Nat.le_of_ble_eq_true rfl)⟩ rfl (Nat.le_of_ble_eq_true rfl)) (fun C hp1 hP => by obtain ⟨hC, rfl⟩ := hP; cases hC; exact A_out X htb ⟨rfl, rfl⟩ (Nat.le_of_ble_eq_true rfl) (Nat.le_of_ble_eq_true rfl)) (fun v hp1 al1 hP => by obtain ⟨u, hu, _⟩ := hP; cases hu)
  refine A_cX (k' := 1) (n' := 6) rfl rfl (A_runVX (rest := []) X dX10_throwsOf_2 (c_X10_requirePlayer g0 g3 g7  hct1) kY_X10_requirePlayer kw_1029 g0 rfl rfl ⟨(Nat.le_of_ble_eq_true rfl), (Nat.le_of_ble_eq_true rfl), (Nat.le_of_ble_eq_true rfl), (Nat.le_of_ble_eq_true rfl)⟩ rfl (Nat.le_of_ble_eq_true rfl)) (fun C hp1 hP => by obtain ⟨hC, _⟩ := hP; cases hC) (fun v9 hp1 al9 hP => ?_)
  obtain ⟨u9, hu9, rfl, rfl, rfl⟩ := hP
  cases hu9
  refine A_st (st' := []) rfl ?_
  refine A_aload_n X dX10_throwsOf_5 0 rfl ?_
  refine A_get X dX10_throwsOf_6 kcl_X10 3 (by decide) kw_654 g0 rfl ?_
  refine A_get X dX10_throwsOf_9 kcl_X2 2 (by decide) kw_148 g3 rfl ?_
  refine A_iload_n X dX10_throwsOf_12 1 rfl ?_
  obtain ⟨t2, hct2, h⟩ := bind_o h
  refine A_cp (k' := 1) (n' := 6) (A_runV (rest := []) X dX10_throwsOf_13 (c_X4_playerThrows g10 g12  hct2) kY_X4_playerThrows kw_809 g10 rfl rfl ⟨(Nat.le_of_ble_eq_true rfl), (Nat.le_of_ble_eq_true rfl), (Nat.le_of_ble_eq_true rfl), (Nat.le_of_ble_eq_true rfl)⟩ rfl (Nat.le_of_ble_eq_true rfl)) rfl rfl ?_
  cases h
  exact A_iretX X dX10_throwsOf_16 hr ⟨_, rfl, rfl, rfl, rfl⟩ (Nat.le_of_ble_eq_true rfl) (Nat.le_of_ble_eq_true rfl)
abbrev P_X10_total (E : KE) (x : Nat)  (hp : Hp) (al : Option Nat) (out : String ⊕ (Int32)) : Option Value → Hp → Option Nat → Prop := fun v0 hp' al' => ∃ u, out = .inr u ∧ v0 = some (.int u) ∧ hp = hp' ∧ al = al'
def f_X10_total (N : Nat) (pc : Int32) (fr : Nat → Int32) (a0 : Int32) : Option (String ⊕ (Int32)) :=
  sbd (f_X10_requirePlayer pc a0) fun t1 =>
  (f_X4_playerTotal N fr a0).bind fun t2 =>
  some (.inr t2)
set_option maxHeartbeats 4000000 in
set_option maxRecDepth 100000 in
theorem c_X10_total {E : KE} {l : Launch} {hp : Hp} {al : Option Nat} {N : Nat} {x : Nat} {sd : Int32} {mn : Int32} {th : Int32} {pc : Int32} {tc : Int32} {fr : Nat → Int32} {a0 : Int32} {out : String ⊕ (Int32)} (g0 : hp x = some (.inr (10, [.ref (x + 126), .ref (x + 128), .ref (x + 1), .ref (x + 3), .ref (x + 16), .ref (x + 18), .ref (x + 124), .ref (x + 125)]))) (g3 : hp (x + 3) = some (.inr (2, [.ref (x + 4), .ref (x + 7), .ref (x + 10), .ref (x + 13), .int sd, .int mn, .int th]))) (g7 : hp (x + 7) = some (.inr (7, [.ref (x + 8), .ref (x + 9), .int pc]))) (g10 : hp (x + 10) = some (.inr (4, [.ref (x + 11), .ref (x + 12), .int tc]))) (g12 : hp (x + 12) = some (.inl (kC E 0, 432, .inl fr)))  (h : f_X10_total N pc fr a0 = some out) : AX E l yX10_total cX10_total 2 (Option.some Jvm.ClassFile.FieldType.int) ⟨8, 1, 6, 124⟩ [.ref x, .int a0] hp al (P_X10_total E x hp al out) (kThr out hp) := by
  refine A_ofX (by decide +kernel) (Nat.le_of_ble_eq_true rfl) ?_
  intro p e s m args below meth c X hr htb
  have X : CX E p l s m args meth c "DiceAudit" cX10_total 2 := X
  refine A_L (L' := [(0, .ref x), (1, .int a0)]) rfl ?_
  unfold f_X10_total at h
  refine A_aload_n X dX10_total_0 0 rfl ?_
  refine A_iload_n X dX10_total_1 1 rfl ?_
  rcases sbd_o h with ⟨c9, hc9, rfl⟩ | ⟨t1, hct1, h⟩
  · exact A_cX (k' := 1) (n' := 6) rfl rfl (A_runVX (rest := []) X dX10_total_2 (c_X10_requirePlayer g0 g3 g7  hc9) kY_X10_requirePlayer kw_1029 g0 rfl rfl ⟨(Nat.le_of_ble_eq_true rfl), (Nat.le_of_ble_eq_true rfl), (Nat.le_of_ble_eq_true rfl), (Nat.le_of_ble_eq_true rfl)⟩ rfl (Nat.le_of_ble_eq_true rfl)) (fun C hp1 hP => by obtain ⟨hC, rfl⟩ := hP; cases hC; exact A_out X htb ⟨rfl, rfl⟩ (Nat.le_of_ble_eq_true rfl) (Nat.le_of_ble_eq_true rfl)) (fun v hp1 al1 hP => by obtain ⟨u, hu, _⟩ := hP; cases hu)
  refine A_cX (k' := 1) (n' := 6) rfl rfl (A_runVX (rest := []) X dX10_total_2 (c_X10_requirePlayer g0 g3 g7  hct1) kY_X10_requirePlayer kw_1029 g0 rfl rfl ⟨(Nat.le_of_ble_eq_true rfl), (Nat.le_of_ble_eq_true rfl), (Nat.le_of_ble_eq_true rfl), (Nat.le_of_ble_eq_true rfl)⟩ rfl (Nat.le_of_ble_eq_true rfl)) (fun C hp1 hP => by obtain ⟨hC, _⟩ := hP; cases hC) (fun v9 hp1 al9 hP => ?_)
  obtain ⟨u9, hu9, rfl, rfl, rfl⟩ := hP
  cases hu9
  refine A_st (st' := []) rfl ?_
  refine A_aload_n X dX10_total_5 0 rfl ?_
  refine A_get X dX10_total_6 kcl_X10 3 (by decide) kw_654 g0 rfl ?_
  refine A_get X dX10_total_9 kcl_X2 2 (by decide) kw_148 g3 rfl ?_
  refine A_iload_n X dX10_total_12 1 rfl ?_
  obtain ⟨t2, hct2, h⟩ := bind_o h
  refine A_cp (k' := 1) (n' := 6) (A_runV (rest := []) X dX10_total_13 (c_X4_playerTotal g10 g12  hct2) kY_X4_playerTotal kw_757 g10 rfl rfl ⟨(Nat.le_of_ble_eq_true rfl), (Nat.le_of_ble_eq_true rfl), (Nat.le_of_ble_eq_true rfl), (Nat.le_of_ble_eq_true rfl)⟩ rfl (Nat.le_of_ble_eq_true rfl)) rfl rfl ?_
  cases h
  exact A_iretX X dX10_total_16 hr ⟨_, rfl, rfl, rfl, rfl⟩ (Nat.le_of_ble_eq_true rfl) (Nat.le_of_ble_eq_true rfl)
abbrev P_X10_meanFace (E : KE) (x : Nat)  (hp : Hp) (al : Option Nat) (out : String ⊕ (UInt64)) : Option Value → Hp → Option Nat → Prop := fun v0 hp' al' => ∃ u, out = .inr u ∧ v0 = some (.double u) ∧ hp = hp' ∧ al = al'
def f_X10_meanFace (N : Nat) (pc : Int32) (fr : Nat → Int32) (a0 : Int32) : Option (String ⊕ (UInt64)) :=
  sbd (f_X10_requirePlayer pc a0) fun t1 =>
  (f_X4_playerThrows N fr a0).bind fun t2 =>
  if t2 = 0 then
    some (.inr FP.dconst0)
  else
    (f_X4_playerTotal N fr a0).bind fun t3 =>
    gd (isn64 (FP.ddiv (FP.i2d t3) (FP.i2d t2))) <|
    some (.inr (FP.ddiv (FP.i2d t3) (FP.i2d t2)))
set_option maxHeartbeats 4000000 in
set_option maxRecDepth 100000 in
theorem c_X10_meanFace {E : KE} {l : Launch} {hp : Hp} {al : Option Nat} {N : Nat} {x : Nat} {sd : Int32} {mn : Int32} {th : Int32} {pc : Int32} {tc : Int32} {fr : Nat → Int32} {a0 : Int32} {out : String ⊕ (UInt64)} (g0 : hp x = some (.inr (10, [.ref (x + 126), .ref (x + 128), .ref (x + 1), .ref (x + 3), .ref (x + 16), .ref (x + 18), .ref (x + 124), .ref (x + 125)]))) (g3 : hp (x + 3) = some (.inr (2, [.ref (x + 4), .ref (x + 7), .ref (x + 10), .ref (x + 13), .int sd, .int mn, .int th]))) (g7 : hp (x + 7) = some (.inr (7, [.ref (x + 8), .ref (x + 9), .int pc]))) (g10 : hp (x + 10) = some (.inr (4, [.ref (x + 11), .ref (x + 12), .int tc]))) (g12 : hp (x + 12) = some (.inl (kC E 0, 432, .inl fr)))  (h : f_X10_meanFace N pc fr a0 = some out) : AX E l yX10_meanFace cX10_meanFace 3 (Option.some Jvm.ClassFile.FieldType.double) ⟨8, 1, 6, 124⟩ [.ref x, .int a0] hp al (P_X10_meanFace E x hp al out) (kThr out hp) := by
  refine A_ofX (by decide +kernel) (Nat.le_of_ble_eq_true rfl) ?_
  intro p e s m args below meth c X hr htb
  have X : CX E p l s m args meth c "DiceAudit" cX10_meanFace 3 := X
  refine A_L (L' := [(0, .ref x), (1, .int a0)]) rfl ?_
  unfold f_X10_meanFace at h
  refine A_aload_n X dX10_meanFace_0 0 rfl ?_
  refine A_iload_n X dX10_meanFace_1 1 rfl ?_
  rcases sbd_o h with ⟨c9, hc9, rfl⟩ | ⟨t1, hct1, h⟩
  · exact A_cX (k' := 1) (n' := 6) rfl rfl (A_runVX (rest := []) X dX10_meanFace_2 (c_X10_requirePlayer g0 g3 g7  hc9) kY_X10_requirePlayer kw_1029 g0 rfl rfl ⟨(Nat.le_of_ble_eq_true rfl), (Nat.le_of_ble_eq_true rfl), (Nat.le_of_ble_eq_true rfl), (Nat.le_of_ble_eq_true rfl)⟩ rfl (Nat.le_of_ble_eq_true rfl)) (fun C hp1 hP => by obtain ⟨hC, rfl⟩ := hP; cases hC; exact A_out X htb ⟨rfl, rfl⟩ (Nat.le_of_ble_eq_true rfl) (Nat.le_of_ble_eq_true rfl)) (fun v hp1 al1 hP => by obtain ⟨u, hu, _⟩ := hP; cases hu)
  refine A_cX (k' := 1) (n' := 6) rfl rfl (A_runVX (rest := []) X dX10_meanFace_2 (c_X10_requirePlayer g0 g3 g7  hct1) kY_X10_requirePlayer kw_1029 g0 rfl rfl ⟨(Nat.le_of_ble_eq_true rfl), (Nat.le_of_ble_eq_true rfl), (Nat.le_of_ble_eq_true rfl), (Nat.le_of_ble_eq_true rfl)⟩ rfl (Nat.le_of_ble_eq_true rfl)) (fun C hp1 hP => by obtain ⟨hC, _⟩ := hP; cases hC) (fun v9 hp1 al9 hP => ?_)
  obtain ⟨u9, hu9, rfl, rfl, rfl⟩ := hP
  cases hu9
  refine A_st (st' := []) rfl ?_
  refine A_aload_n X dX10_meanFace_5 0 rfl ?_
  refine A_get X dX10_meanFace_6 kcl_X10 3 (by decide) kw_654 g0 rfl ?_
  refine A_get X dX10_meanFace_9 kcl_X2 2 (by decide) kw_148 g3 rfl ?_
  refine A_iload_n X dX10_meanFace_12 1 rfl ?_
  obtain ⟨t2, hct2, h⟩ := bind_o h
  refine A_cp (k' := 1) (n' := 6) (A_runV (rest := []) X dX10_meanFace_13 (c_X4_playerThrows g10 g12  hct2) kY_X4_playerThrows kw_809 g10 rfl rfl ⟨(Nat.le_of_ble_eq_true rfl), (Nat.le_of_ble_eq_true rfl), (Nat.le_of_ble_eq_true rfl), (Nat.le_of_ble_eq_true rfl)⟩ rfl (Nat.le_of_ble_eq_true rfl)) rfl rfl ?_
  refine A_istore_n (L' := [(2, .int t2), (0, .ref x), (1, .int a0)]) X dX10_meanFace_16 rfl (by decide) rfl ?_
  refine A_iload_n X dX10_meanFace_17 0 rfl ?_
  refine A_if_ne (tgt := 23) X dX10_meanFace_18 h (by decide) (fun hc h => ?_) (fun hc h => ?_)
  · refine A_aload_n X dX10_meanFace_23 1 rfl ?_
    refine A_get X dX10_meanFace_24 kcl_X10 3 (by decide) kw_654 g0 rfl ?_
    refine A_get X dX10_meanFace_27 kcl_X2 2 (by decide) kw_148 g3 rfl ?_
    refine A_iload_n X dX10_meanFace_30 2 rfl ?_
    obtain ⟨t3, hct3, h⟩ := bind_o h
    refine A_cp (k' := 1) (n' := 6) (A_runV (rest := []) X dX10_meanFace_31 (c_X4_playerTotal g10 g12  hct3) kY_X4_playerTotal kw_757 g10 rfl rfl ⟨(Nat.le_of_ble_eq_true rfl), (Nat.le_of_ble_eq_true rfl), (Nat.le_of_ble_eq_true rfl), (Nat.le_of_ble_eq_true rfl)⟩ rfl (Nat.le_of_ble_eq_true rfl)) rfl rfl ?_
    refine A_i2d X dX10_meanFace_34 ?_
    refine A_iload_n X dX10_meanFace_35 0 rfl ?_
    refine A_i2d X dX10_meanFace_36 ?_
    obtain ⟨hq, h⟩ := gd_o h
    refine A_ddiv X dX10_meanFace_37 (isn64_o hq) ?_
    cases h
    exact A_dretX X dX10_meanFace_38 hr ⟨_, rfl, rfl, rfl, rfl⟩ (Nat.le_of_ble_eq_true rfl) (Nat.le_of_ble_eq_true rfl)
  · refine A_dconst0 X dX10_meanFace_21 ?_
    cases h
    exact A_dretX X dX10_meanFace_22 hr ⟨_, rfl, rfl, rfl, rfl⟩ (Nat.le_of_ble_eq_true rfl) (Nat.le_of_ble_eq_true rfl)
abbrev P_X10_rankOf (E : KE) (x : Nat)  (hp : Hp) (al : Option Nat) (out : String ⊕ (Int32)) : Option Value → Hp → Option Nat → Prop := fun v0 hp' al' => ∃ u, out = .inr u ∧ v0 = some (.int u) ∧ hp = hp' ∧ al = al'
def f_X10_rankOf (N : Nat) (pc : Int32) (lt : Nat → Int32) (fr : Nat → Int32) (a0 : Int32) : Option (String ⊕ (Int32)) :=
  sbd (f_X10_requirePlayer pc a0) fun t1 =>
  (f_X2_placeByTotal N pc lt fr a0).bind fun t2 =>
  some (.inr t2)
set_option maxHeartbeats 4000000 in
set_option maxRecDepth 100000 in
theorem c_X10_rankOf {E : KE} {l : Launch} {hp : Hp} {al : Option Nat} {N : Nat} {x : Nat} {sd : Int32} {mn : Int32} {th : Int32} {pc : Int32} {lt : Nat → Int32} {tc : Int32} {fr : Nat → Int32} {a0 : Int32} {out : String ⊕ (Int32)} (g0 : hp x = some (.inr (10, [.ref (x + 126), .ref (x + 128), .ref (x + 1), .ref (x + 3), .ref (x + 16), .ref (x + 18), .ref (x + 124), .ref (x + 125)]))) (g3 : hp (x + 3) = some (.inr (2, [.ref (x + 4), .ref (x + 7), .ref (x + 10), .ref (x + 13), .int sd, .int mn, .int th]))) (g7 : hp (x + 7) = some (.inr (7, [.ref (x + 8), .ref (x + 9), .int pc]))) (g9 : hp (x + 9) = some (.inl (kC E 0, 24, .inl lt))) (g10 : hp (x + 10) = some (.inr (4, [.ref (x + 11), .ref (x + 12), .int tc]))) (g12 : hp (x + 12) = some (.inl (kC E 0, 432, .inl fr)))  (h : f_X10_rankOf N pc lt fr a0 = some out) : AX E l yX10_rankOf cX10_rankOf 2 (Option.some Jvm.ClassFile.FieldType.int) ⟨8, 1, 6, 124⟩ [.ref x, .int a0] hp al (P_X10_rankOf E x hp al out) (kThr out hp) := by
  refine A_ofX (by decide +kernel) (Nat.le_of_ble_eq_true rfl) ?_
  intro p e s m args below meth c X hr htb
  have X : CX E p l s m args meth c "DiceAudit" cX10_rankOf 2 := X
  refine A_L (L' := [(0, .ref x), (1, .int a0)]) rfl ?_
  unfold f_X10_rankOf at h
  refine A_aload_n X dX10_rankOf_0 0 rfl ?_
  refine A_iload_n X dX10_rankOf_1 1 rfl ?_
  rcases sbd_o h with ⟨c9, hc9, rfl⟩ | ⟨t1, hct1, h⟩
  · exact A_cX (k' := 1) (n' := 6) rfl rfl (A_runVX (rest := []) X dX10_rankOf_2 (c_X10_requirePlayer g0 g3 g7  hc9) kY_X10_requirePlayer kw_1029 g0 rfl rfl ⟨(Nat.le_of_ble_eq_true rfl), (Nat.le_of_ble_eq_true rfl), (Nat.le_of_ble_eq_true rfl), (Nat.le_of_ble_eq_true rfl)⟩ rfl (Nat.le_of_ble_eq_true rfl)) (fun C hp1 hP => by obtain ⟨hC, rfl⟩ := hP; cases hC; exact A_out X htb ⟨rfl, rfl⟩ (Nat.le_of_ble_eq_true rfl) (Nat.le_of_ble_eq_true rfl)) (fun v hp1 al1 hP => by obtain ⟨u, hu, _⟩ := hP; cases hu)
  refine A_cX (k' := 1) (n' := 6) rfl rfl (A_runVX (rest := []) X dX10_rankOf_2 (c_X10_requirePlayer g0 g3 g7  hct1) kY_X10_requirePlayer kw_1029 g0 rfl rfl ⟨(Nat.le_of_ble_eq_true rfl), (Nat.le_of_ble_eq_true rfl), (Nat.le_of_ble_eq_true rfl), (Nat.le_of_ble_eq_true rfl)⟩ rfl (Nat.le_of_ble_eq_true rfl)) (fun C hp1 hP => by obtain ⟨hC, _⟩ := hP; cases hC) (fun v9 hp1 al9 hP => ?_)
  obtain ⟨u9, hu9, rfl, rfl, rfl⟩ := hP
  cases hu9
  refine A_st (st' := []) rfl ?_
  refine A_aload_n X dX10_rankOf_5 0 rfl ?_
  refine A_get X dX10_rankOf_6 kcl_X10 3 (by decide) kw_654 g0 rfl ?_
  refine A_iload_n X dX10_rankOf_9 1 rfl ?_
  obtain ⟨t2, hct2, h⟩ := bind_o h
  refine A_cp (k' := 1) (n' := 6) (A_runV (rest := []) X dX10_rankOf_10 (c_X2_placeByTotal g3 g7 g9 g10 g12  hct2) kY_X2_placeByTotal kw_1112 g3 rfl rfl ⟨(Nat.le_of_ble_eq_true rfl), (Nat.le_of_ble_eq_true rfl), (Nat.le_of_ble_eq_true rfl), (Nat.le_of_ble_eq_true rfl)⟩ rfl (Nat.le_of_ble_eq_true rfl)) rfl rfl ?_
  cases h
  exact A_iretX X dX10_rankOf_13 hr ⟨_, rfl, rfl, rfl, rfl⟩ (Nat.le_of_ble_eq_true rfl) (Nat.le_of_ble_eq_true rfl)
abbrev P_X10_playerWithRank (E : KE) (x : Nat)  (hp : Hp) (al : Option Nat) (out : String ⊕ (Int32)) : Option Value → Hp → Option Nat → Prop := fun v0 hp' al' => ∃ u, out = .inr u ∧ v0 = some (.int u) ∧ hp = hp' ∧ al = al'
def f_X10_playerWithRank_L2_F (N : Nat) (pc : Int32) (lt : Nat → Int32) (fr : Nat → Int32)  (r2 : Int32 → Int32 → Option (String ⊕ (Int32))) (l1 : Int32) (l2 : Int32) : Option (String ⊕ (Int32)) :=
  if pc ≤ l2 then
    some (.inl "java/util/NoSuchElementException")
  else
    (f_X2_placeByTotal N pc lt fr l2).bind fun t1 =>
    if t1 = l1 then
      some (.inr l2)
    else
      r2 l1 (l2 + 1)
def f_X10_playerWithRank_L2 (N : Nat) (pc : Int32) (lt : Nat → Int32) (fr : Nat → Int32)  : Nat → Int32 → Int32 → Option (String ⊕ (Int32))
  | 0 => fun _ _ => none
  | j + 1 => f_X10_playerWithRank_L2_F N pc lt fr (f_X10_playerWithRank_L2 N pc lt fr j)
set_option maxHeartbeats 4000000 in
set_option maxRecDepth 100000 in
theorem c_X10_playerWithRank_L2 {E : KE} {p : Program} {l : Launch} {e : Env} {s : State} {m : MethodId} {args : Array Value} {below : List Frame} {meth : Method} {c : Code} {al : Option Nat} {N : Nat} {x : Nat} {sd : Int32} {mn : Int32} {th : Int32} {pc : Int32} {lt : Nat → Int32} {tc : Int32} {fr : Nat → Int32} {hp0 : Hp} {out : String ⊕ (Int32)}  (X : CX E p l s m args meth c "DiceAudit" cX10_playerWithRank 3) (hr : meth.sig.returnType = (Option.some Jvm.ClassFile.FieldType.int)) (htb : ∀ x ∈ c.exceptionTable.toList, False)  (g0 : hp0 x = some (.inr (10, [.ref (x + 126), .ref (x + 128), .ref (x + 1), .ref (x + 3), .ref (x + 16), .ref (x + 18), .ref (x + 124), .ref (x + 125)]))) (g3 : hp0 (x + 3) = some (.inr (2, [.ref (x + 4), .ref (x + 7), .ref (x + 10), .ref (x + 13), .int sd, .int mn, .int th]))) (g7 : hp0 (x + 7) = some (.inr (7, [.ref (x + 8), .ref (x + 9), .int pc]))) (g9 : hp0 (x + 9) = some (.inl (kC E 0, 24, .inl lt))) (g10 : hp0 (x + 10) = some (.inr (4, [.ref (x + 11), .ref (x + 12), .int tc]))) (g12 : hp0 (x + 12) = some (.inl (kC E 0, 432, .inl fr))) : ∀ (j : Nat), ∀ {l1 : Int32} {l2 : Int32}, f_X10_playerWithRank_L2 N pc lt fr j l1 l2 = some out → AW E p l e ⟨6, 1, 6, 113⟩ s m args below meth c 3 (vx_MQ below (kQc E (P_X10_playerWithRank E x hp0 al out)) (kXC E (kThr out hp0)) args s 1 6 (kA E)) hp0 al 0 0 2 [(0, .ref x), (1, .int l1), (2, .int l2)] [] := by
  intro j
  induction j with
  | zero =>
    intro l1 l2 h
    have h : (none : Option (String ⊕ (Int32))) = some out := h
    cases h
  | succ j i2 =>
    intro l1 l2 h
    have h : f_X10_playerWithRank_L2_F N pc lt fr (f_X10_playerWithRank_L2 N pc lt fr j) l1 l2 = some out := h
    unfold f_X10_playerWithRank_L2_F at h
    refine A_iload_n X dX10_playerWithRank_2 2 rfl ?_
    refine A_aload_n X dX10_playerWithRank_3 0 rfl ?_
    refine A_get X dX10_playerWithRank_4 kcl_X10 3 (by decide) kw_654 g0 rfl ?_
    refine A_get X dX10_playerWithRank_7 kcl_X2 1 (by decide) kw_145 g3 rfl ?_
    refine A_get X dX10_playerWithRank_10 kcl_X7 2 (by decide) kw_86 g7 rfl ?_
    refine A_icmp_ge (tgt := 36) X dX10_playerWithRank_13 h (by decide) (fun hc h => ?_) (fun hc h => ?_)
    · cases h
      exact A_throwS9 (Y0 := "java/lang/RuntimeException") (names := ["java/lang/Exception"]) X htb v9_d0 v9_d1 v9_d2 v9_d5 (by decide +kernel) (by decide +kernel) (by decide +kernel) kw_1033 kw_26 (List.mem_of_getElem? (i := 21) rfl) xa_X10_180 xg_X10_180 dX10_playerWithRank_36 dX10_playerWithRank_39 dX10_playerWithRank_40 dX10_playerWithRank_42 dX10_playerWithRank_45 (Nat.le_of_ble_eq_true rfl) (Nat.le_of_ble_eq_true rfl) (Nat.le_of_ble_eq_true rfl) (Nat.le_of_ble_eq_true rfl) ⟨rfl, rfl⟩ (Nat.le_of_ble_eq_true rfl) (Nat.le_of_ble_eq_true rfl)
    · refine A_aload_n X dX10_playerWithRank_16 0 rfl ?_
      refine A_get X dX10_playerWithRank_17 kcl_X10 3 (by decide) kw_654 g0 rfl ?_
      refine A_iload_n X dX10_playerWithRank_20 2 rfl ?_
      obtain ⟨t1, hct1, h⟩ := bind_o h
      refine A_cp (k' := 0) (n' := 0) (A_runV (rest := []) X dX10_playerWithRank_21 (c_X2_placeByTotal g3 g7 g9 g10 g12  hct1) kY_X2_placeByTotal kw_1112 g3 rfl rfl ⟨(Nat.le_of_ble_eq_true rfl), (Nat.le_of_ble_eq_true rfl), (Nat.le_of_ble_eq_true rfl), (Nat.le_of_ble_eq_true rfl)⟩ rfl (Nat.le_of_ble_eq_true rfl)) rfl rfl ?_
      refine A_iload_n X dX10_playerWithRank_24 1 rfl ?_
      refine A_icmp_ne (tgt := 30) X dX10_playerWithRank_25 h (by decide) (fun hc h => ?_) (fun hc h => ?_)
      · refine A_iinc (j := 2) (v := (l2 + 1)) (L' := [(2, .int (l2 + 1)), (0, .ref x), (1, .int l1)]) X dX10_playerWithRank_30 rfl rfl (by decide) rfl ?_
        refine A_goto (tgt := 2) X dX10_playerWithRank_33 (by decide) ?_
        refine A_sub (L' := [(0, .ref x), (1, .int l1), (2, .int (l2 + 1))]) [1, 2, 0] rfl ?_
        exact i2  h
      · refine A_iload_n X dX10_playerWithRank_28 2 rfl ?_
        cases h
        exact A_iretX X dX10_playerWithRank_29 hr ⟨_, rfl, rfl, rfl, rfl⟩ (Nat.le_of_ble_eq_true rfl) (Nat.le_of_ble_eq_true rfl)
def f_X10_playerWithRank (N : Nat) (pc : Int32) (lt : Nat → Int32) (fr : Nat → Int32) (a0 : Int32) : Option (String ⊕ (Int32)) :=
  f_X10_playerWithRank_L2 N pc lt fr N a0 0
set_option maxHeartbeats 4000000 in
set_option maxRecDepth 100000 in
theorem c_X10_playerWithRank {E : KE} {l : Launch} {hp : Hp} {al : Option Nat} {N : Nat} {x : Nat} {sd : Int32} {mn : Int32} {th : Int32} {pc : Int32} {lt : Nat → Int32} {tc : Int32} {fr : Nat → Int32} {a0 : Int32} {out : String ⊕ (Int32)} (g0 : hp x = some (.inr (10, [.ref (x + 126), .ref (x + 128), .ref (x + 1), .ref (x + 3), .ref (x + 16), .ref (x + 18), .ref (x + 124), .ref (x + 125)]))) (g3 : hp (x + 3) = some (.inr (2, [.ref (x + 4), .ref (x + 7), .ref (x + 10), .ref (x + 13), .int sd, .int mn, .int th]))) (g7 : hp (x + 7) = some (.inr (7, [.ref (x + 8), .ref (x + 9), .int pc]))) (g9 : hp (x + 9) = some (.inl (kC E 0, 24, .inl lt))) (g10 : hp (x + 10) = some (.inr (4, [.ref (x + 11), .ref (x + 12), .int tc]))) (g12 : hp (x + 12) = some (.inl (kC E 0, 432, .inl fr)))  (h : f_X10_playerWithRank N pc lt fr a0 = some out) : AX E l yX10_playerWithRank cX10_playerWithRank 3 (Option.some Jvm.ClassFile.FieldType.int) ⟨6, 1, 6, 113⟩ [.ref x, .int a0] hp al (P_X10_playerWithRank E x hp al out) (kThr out hp) := by
  refine A_ofX (by decide +kernel) (Nat.le_of_ble_eq_true rfl) ?_
  intro p e s m args below meth c X hr htb
  have X : CX E p l s m args meth c "DiceAudit" cX10_playerWithRank 3 := X
  refine A_L (L' := [(0, .ref x), (1, .int a0)]) rfl ?_
  unfold f_X10_playerWithRank at h
  refine A_iconst (v := 0) X dX10_playerWithRank_0 (by decide) ?_
  refine A_istore_n (L' := [(2, .int 0), (0, .ref x), (1, .int a0)]) X dX10_playerWithRank_1 rfl (by decide) rfl ?_
  refine A_sub (L' := [(0, .ref x), (1, .int a0), (2, .int 0)]) [1, 2, 0] rfl ?_
  exact c_X10_playerWithRank_L2 X hr htb g0 g3 g7 g9 g10 g12 N  h
abbrev P_X10_longestRun (E : KE) (x : Nat)  (hp : Hp) (al : Option Nat) (out : String ⊕ (Int32)) : Option Value → Hp → Option Nat → Prop := fun v0 hp' al' => ∃ u, out = .inr u ∧ v0 = some (.int u) ∧ hp = hp' ∧ al = al'
def f_X10_longestRun (N : Nat) (pc : Int32) (tc : Int32) (en : Nat → Int32) (a0 : Int32) : Option (String ⊕ (Int32)) :=
  sbd (f_X10_requirePlayer pc a0) fun t1 =>
  (f_X4_longestStreak N tc en a0).bind fun t2 =>
  some (.inr t2)
set_option maxHeartbeats 4000000 in
set_option maxRecDepth 100000 in
theorem c_X10_longestRun {E : KE} {l : Launch} {hp : Hp} {al : Option Nat} {N : Nat} {x : Nat} {sd : Int32} {mn : Int32} {th : Int32} {pc : Int32} {tc : Int32} {en : Nat → Int32} {a0 : Int32} {out : String ⊕ (Int32)} (g0 : hp x = some (.inr (10, [.ref (x + 126), .ref (x + 128), .ref (x + 1), .ref (x + 3), .ref (x + 16), .ref (x + 18), .ref (x + 124), .ref (x + 125)]))) (g3 : hp (x + 3) = some (.inr (2, [.ref (x + 4), .ref (x + 7), .ref (x + 10), .ref (x + 13), .int sd, .int mn, .int th]))) (g7 : hp (x + 7) = some (.inr (7, [.ref (x + 8), .ref (x + 9), .int pc]))) (g10 : hp (x + 10) = some (.inr (4, [.ref (x + 11), .ref (x + 12), .int tc]))) (g11 : hp (x + 11) = some (.inl (kC E 0, 300, .inl en)))  (h : f_X10_longestRun N pc tc en a0 = some out) : AX E l yX10_longestRun cX10_longestRun 2 (Option.some Jvm.ClassFile.FieldType.int) ⟨8, 1, 6, 124⟩ [.ref x, .int a0] hp al (P_X10_longestRun E x hp al out) (kThr out hp) := by
  refine A_ofX (by decide +kernel) (Nat.le_of_ble_eq_true rfl) ?_
  intro p e s m args below meth c X hr htb
  have X : CX E p l s m args meth c "DiceAudit" cX10_longestRun 2 := X
  refine A_L (L' := [(0, .ref x), (1, .int a0)]) rfl ?_
  unfold f_X10_longestRun at h
  refine A_aload_n X dX10_longestRun_0 0 rfl ?_
  refine A_iload_n X dX10_longestRun_1 1 rfl ?_
  rcases sbd_o h with ⟨c9, hc9, rfl⟩ | ⟨t1, hct1, h⟩
  · exact A_cX (k' := 1) (n' := 6) rfl rfl (A_runVX (rest := []) X dX10_longestRun_2 (c_X10_requirePlayer g0 g3 g7  hc9) kY_X10_requirePlayer kw_1029 g0 rfl rfl ⟨(Nat.le_of_ble_eq_true rfl), (Nat.le_of_ble_eq_true rfl), (Nat.le_of_ble_eq_true rfl), (Nat.le_of_ble_eq_true rfl)⟩ rfl (Nat.le_of_ble_eq_true rfl)) (fun C hp1 hP => by obtain ⟨hC, rfl⟩ := hP; cases hC; exact A_out X htb ⟨rfl, rfl⟩ (Nat.le_of_ble_eq_true rfl) (Nat.le_of_ble_eq_true rfl)) (fun v hp1 al1 hP => by obtain ⟨u, hu, _⟩ := hP; cases hu)
  refine A_cX (k' := 1) (n' := 6) rfl rfl (A_runVX (rest := []) X dX10_longestRun_2 (c_X10_requirePlayer g0 g3 g7  hct1) kY_X10_requirePlayer kw_1029 g0 rfl rfl ⟨(Nat.le_of_ble_eq_true rfl), (Nat.le_of_ble_eq_true rfl), (Nat.le_of_ble_eq_true rfl), (Nat.le_of_ble_eq_true rfl)⟩ rfl (Nat.le_of_ble_eq_true rfl)) (fun C hp1 hP => by obtain ⟨hC, _⟩ := hP; cases hC) (fun v9 hp1 al9 hP => ?_)
  obtain ⟨u9, hu9, rfl, rfl, rfl⟩ := hP
  cases hu9
  refine A_st (st' := []) rfl ?_
  refine A_aload_n X dX10_longestRun_5 0 rfl ?_
  refine A_get X dX10_longestRun_6 kcl_X10 3 (by decide) kw_654 g0 rfl ?_
  refine A_get X dX10_longestRun_9 kcl_X2 2 (by decide) kw_148 g3 rfl ?_
  refine A_iload_n X dX10_longestRun_12 1 rfl ?_
  obtain ⟨t2, hct2, h⟩ := bind_o h
  refine A_cp (k' := 1) (n' := 6) (A_runV (rest := []) X dX10_longestRun_13 (c_X4_longestStreak g10 g11  hct2) kY_X4_longestStreak kw_1137 g10 rfl rfl ⟨(Nat.le_of_ble_eq_true rfl), (Nat.le_of_ble_eq_true rfl), (Nat.le_of_ble_eq_true rfl), (Nat.le_of_ble_eq_true rfl)⟩ rfl (Nat.le_of_ble_eq_true rfl)) rfl rfl ?_
  cases h
  exact A_iretX X dX10_longestRun_16 hr ⟨_, rfl, rfl, rfl, rfl⟩ (Nat.le_of_ble_eq_true rfl) (Nat.le_of_ble_eq_true rfl)
def f_X10_findPlayer (N : Nat) (pc : Int32) (ln : Nat → Int32) (lt : Nat → Int32) (itl : Int32) (itb : Nat → Int32)  : Option (Int32) :=
  (f_X7_find N pc ln lt itl itb 0 itl).bind fun t1 =>
  some t1
set_option maxHeartbeats 4000000 in
set_option maxRecDepth 100000 in
theorem c_X10_findPlayer {E : KE} {l : Launch} {hp : Hp} {al : Option Nat} {N : Nat} {x : Nat} {sd : Int32} {mn : Int32} {th : Int32} {pc : Int32} {ln : Nat → Int32} {lt : Nat → Int32} {itl : Int32} {itb : Nat → Int32}  {out : Int32} (g0 : hp x = some (.inr (10, [.ref (x + 126), .ref (x + 128), .ref (x + 1), .ref (x + 3), .ref (x + 16), .ref (x + 18), .ref (x + 124), .ref (x + 125)]))) (g3 : hp (x + 3) = some (.inr (2, [.ref (x + 4), .ref (x + 7), .ref (x + 10), .ref (x + 13), .int sd, .int mn, .int th]))) (g7 : hp (x + 7) = some (.inr (7, [.ref (x + 8), .ref (x + 9), .int pc]))) (g8 : hp (x + 8) = some (.inl (kC E 0, 6, .inl ln))) (g9 : hp (x + 9) = some (.inl (kC E 0, 24, .inl lt))) (g22 : hp (x + 126) = some (.inr (8, [.ref (x + 127), .int itl]))) (g23 : hp (x + 127) = some (.inl (kC E 0, 900, .inl itb)))  (h : f_X10_findPlayer N pc ln lt itl itb = some out) : AM E l yX10_findPlayer cX10_findPlayer 1 (Option.some Jvm.ClassFile.FieldType.int) ⟨3, 0, 0, 71⟩ [.ref x] hp al (kRet out hp al) := by
  refine A_of (by decide +kernel) (Nat.le_of_ble_eq_true rfl) ?_
  intro p e s m args below meth c X hr hnm
  have X : CX E p l s m args meth c "DiceAudit" cX10_findPlayer 1 := X
  refine A_L (L' := [(0, .ref x)]) rfl ?_
  unfold f_X10_findPlayer at h
  refine A_aload_n X dX10_findPlayer_0 0 rfl ?_
  refine A_get X dX10_findPlayer_1 kcl_X10 3 (by decide) kw_654 g0 rfl ?_
  refine A_get X dX10_findPlayer_4 kcl_X2 1 (by decide) kw_145 g3 rfl ?_
  refine A_aload_n X dX10_findPlayer_7 0 rfl ?_
  refine A_get X dX10_findPlayer_8 kcl_X10 0 (by decide) kw_651 g0 rfl ?_
  refine A_iconst (v := 0) X dX10_findPlayer_11 (by decide) ?_
  refine A_aload_n X dX10_findPlayer_12 0 rfl ?_
  refine A_get X dX10_findPlayer_13 kcl_X10 0 (by decide) kw_651 g0 rfl ?_
  refine A_get X dX10_findPlayer_16 kcl_X8 1 (by decide) kw_43 g22 rfl ?_
  obtain ⟨t1, hct1, h⟩ := bind_o h
  refine A_cp (k' := 0) (n' := 0) (A_runV (rest := []) X dX10_findPlayer_19 (c_X7_find g7 g8 g9 g22 g23  hct1) kY_X7_find kw_713 g7 rfl rfl ⟨(Nat.le_of_ble_eq_true rfl), (Nat.le_of_ble_eq_true rfl), (Nat.le_of_ble_eq_true rfl), (Nat.le_of_ble_eq_true rfl)⟩ rfl (Nat.le_of_ble_eq_true rfl)) rfl rfl ?_
  cases h
  exact A_iret X dX10_findPlayer_22 hr ⟨rfl, rfl, rfl⟩ (Nat.le_of_ble_eq_true rfl) (Nat.le_of_ble_eq_true rfl)
abbrev P_X10_requirePair (E : KE) (x : Nat)  (hp : Hp) (al : Option Nat) (out : String ⊕ (Unit)) : Option Value → Hp → Option Nat → Prop := fun v0 hp' al' => ∃ u, out = .inr u ∧ v0 = none ∧ hp = hp' ∧ al = al'
def f_X10_requirePair (dc : Int32) (pc : Int32) (a0 : Int32) (a1 : Int32) : Option (String ⊕ (Unit)) :=
  sbd (f_X10_requirePlayer pc a0) fun t1 =>
  sbd (f_X10_requireDie dc a1) fun t2 =>
  some (.inr ())
set_option maxHeartbeats 4000000 in
set_option maxRecDepth 100000 in
theorem c_X10_requirePair {E : KE} {l : Launch} {hp : Hp} {al : Option Nat} {x : Nat} {sd : Int32} {mn : Int32} {th : Int32} {dc : Int32} {pc : Int32} {a0 : Int32} {a1 : Int32} {out : String ⊕ (Unit)} (g0 : hp x = some (.inr (10, [.ref (x + 126), .ref (x + 128), .ref (x + 1), .ref (x + 3), .ref (x + 16), .ref (x + 18), .ref (x + 124), .ref (x + 125)]))) (g3 : hp (x + 3) = some (.inr (2, [.ref (x + 4), .ref (x + 7), .ref (x + 10), .ref (x + 13), .int sd, .int mn, .int th]))) (g4 : hp (x + 4) = some (.inr (0, [.ref (x + 5), .ref (x + 6), .int dc]))) (g7 : hp (x + 7) = some (.inr (7, [.ref (x + 8), .ref (x + 9), .int pc])))  (h : f_X10_requirePair dc pc a0 a1 = some out) : AX E l yX10_requirePair cX10_requirePair 3 (Option.none : Option Jvm.ClassFile.FieldType) ⟨8, 2, 12, 124⟩ [.ref x, .int a0, .int a1] hp al (P_X10_requirePair E x hp al out) (kThr out hp) := by
  refine A_ofX (by decide +kernel) (Nat.le_of_ble_eq_true rfl) ?_
  intro p e s m args below meth c X hr htb
  have X : CX E p l s m args meth c "DiceAudit" cX10_requirePair 3 := X
  refine A_L (L' := [(0, .ref x), (1, .int a0), (2, .int a1)]) rfl ?_
  unfold f_X10_requirePair at h
  refine A_aload_n X dX10_requirePair_0 0 rfl ?_
  refine A_iload_n X dX10_requirePair_1 1 rfl ?_
  rcases sbd_o h with ⟨c9, hc9, rfl⟩ | ⟨t1, hct1, h⟩
  · exact A_cX (k' := 1) (n' := 6) rfl rfl (A_runVX (rest := []) X dX10_requirePair_2 (c_X10_requirePlayer g0 g3 g7  hc9) kY_X10_requirePlayer kw_1029 g0 rfl rfl ⟨(Nat.le_of_ble_eq_true rfl), (Nat.le_of_ble_eq_true rfl), (Nat.le_of_ble_eq_true rfl), (Nat.le_of_ble_eq_true rfl)⟩ rfl (Nat.le_of_ble_eq_true rfl)) (fun C hp1 hP => by obtain ⟨hC, rfl⟩ := hP; cases hC; exact A_out X htb ⟨rfl, rfl⟩ (Nat.le_of_ble_eq_true rfl) (Nat.le_of_ble_eq_true rfl)) (fun v hp1 al1 hP => by obtain ⟨u, hu, _⟩ := hP; cases hu)
  refine A_cX (k' := 1) (n' := 6) rfl rfl (A_runVX (rest := []) X dX10_requirePair_2 (c_X10_requirePlayer g0 g3 g7  hct1) kY_X10_requirePlayer kw_1029 g0 rfl rfl ⟨(Nat.le_of_ble_eq_true rfl), (Nat.le_of_ble_eq_true rfl), (Nat.le_of_ble_eq_true rfl), (Nat.le_of_ble_eq_true rfl)⟩ rfl (Nat.le_of_ble_eq_true rfl)) (fun C hp1 hP => by obtain ⟨hC, _⟩ := hP; cases hC) (fun v9 hp1 al9 hP => ?_)
  obtain ⟨u9, hu9, rfl, rfl, rfl⟩ := hP
  cases hu9
  refine A_st (st' := []) rfl ?_
  refine A_aload_n X dX10_requirePair_5 0 rfl ?_
  refine A_iload_n X dX10_requirePair_6 2 rfl ?_
  rcases sbd_o h with ⟨c9, hc9, rfl⟩ | ⟨t2, hct2, h⟩
  · exact A_cX (k' := 2) (n' := 12) rfl rfl (A_runVX (rest := []) X dX10_requirePair_7 (c_X10_requireDie g0 g3 g4  hc9) kY_X10_requireDie kw_958 g0 rfl rfl ⟨(Nat.le_of_ble_eq_true rfl), (Nat.le_of_ble_eq_true rfl), (Nat.le_of_ble_eq_true rfl), (Nat.le_of_ble_eq_true rfl)⟩ rfl (Nat.le_of_ble_eq_true rfl)) (fun C hp1 hP => by obtain ⟨hC, rfl⟩ := hP; cases hC; exact A_out X htb ⟨rfl, rfl⟩ (Nat.le_of_ble_eq_true rfl) (Nat.le_of_ble_eq_true rfl)) (fun v hp1 al1 hP => by obtain ⟨u, hu, _⟩ := hP; cases hu)
  refine A_cX (k' := 2) (n' := 12) rfl rfl (A_runVX (rest := []) X dX10_requirePair_7 (c_X10_requireDie g0 g3 g4  hct2) kY_X10_requireDie kw_958 g0 rfl rfl ⟨(Nat.le_of_ble_eq_true rfl), (Nat.le_of_ble_eq_true rfl), (Nat.le_of_ble_eq_true rfl), (Nat.le_of_ble_eq_true rfl)⟩ rfl (Nat.le_of_ble_eq_true rfl)) (fun C hp1 hP => by obtain ⟨hC, _⟩ := hP; cases hC) (fun v9 hp1 al9 hP => ?_)
  obtain ⟨u9, hu9, rfl, rfl, rfl⟩ := hP
  cases hu9
  refine A_st (st' := []) rfl ?_
  cases h
  exact A_vretX X dX10_requirePair_10 hr ⟨_, rfl, rfl, rfl, rfl⟩ (Nat.le_of_ble_eq_true rfl) (Nat.le_of_ble_eq_true rfl)
abbrev P_X10_throwsOfPair (E : KE) (x : Nat)  (hp : Hp) (al : Option Nat) (out : String ⊕ (Int32)) : Option Value → Hp → Option Nat → Prop := fun v0 hp' al' => ∃ u, out = .inr u ∧ v0 = some (.int u) ∧ hp = hp' ∧ al = al'
def f_X10_throwsOfPair (N : Nat) (dc : Int32) (pc : Int32) (fr : Nat → Int32) (a0 : Int32) (a1 : Int32) : Option (String ⊕ (Int32)) :=
  sbd (f_X10_requirePair dc pc a0 a1) fun t1 =>
  (f_X10_pairOf a0 a1).bind fun t2 =>
  (f_X4_pairThrows N fr t2).bind fun t3 =>
  some (.inr t3)
set_option maxHeartbeats 4000000 in
set_option maxRecDepth 100000 in
theorem c_X10_throwsOfPair {E : KE} {l : Launch} {hp : Hp} {al : Option Nat} {N : Nat} {x : Nat} {sd : Int32} {mn : Int32} {th : Int32} {dc : Int32} {pc : Int32} {tc : Int32} {fr : Nat → Int32} {a0 : Int32} {a1 : Int32} {out : String ⊕ (Int32)} (g0 : hp x = some (.inr (10, [.ref (x + 126), .ref (x + 128), .ref (x + 1), .ref (x + 3), .ref (x + 16), .ref (x + 18), .ref (x + 124), .ref (x + 125)]))) (g3 : hp (x + 3) = some (.inr (2, [.ref (x + 4), .ref (x + 7), .ref (x + 10), .ref (x + 13), .int sd, .int mn, .int th]))) (g4 : hp (x + 4) = some (.inr (0, [.ref (x + 5), .ref (x + 6), .int dc]))) (g7 : hp (x + 7) = some (.inr (7, [.ref (x + 8), .ref (x + 9), .int pc]))) (g10 : hp (x + 10) = some (.inr (4, [.ref (x + 11), .ref (x + 12), .int tc]))) (g12 : hp (x + 12) = some (.inl (kC E 0, 432, .inl fr)))  (h : f_X10_throwsOfPair N dc pc fr a0 a1 = some out) : AX E l yX10_throwsOfPair cX10_throwsOfPair 3 (Option.some Jvm.ClassFile.FieldType.int) ⟨9, 2, 12, 146⟩ [.ref x, .int a0, .int a1] hp al (P_X10_throwsOfPair E x hp al out) (kThr out hp) := by
  refine A_ofX (by decide +kernel) (Nat.le_of_ble_eq_true rfl) ?_
  intro p e s m args below meth c X hr htb
  have X : CX E p l s m args meth c "DiceAudit" cX10_throwsOfPair 3 := X
  refine A_L (L' := [(0, .ref x), (1, .int a0), (2, .int a1)]) rfl ?_
  unfold f_X10_throwsOfPair at h
  refine A_aload_n X dX10_throwsOfPair_0 0 rfl ?_
  refine A_iload_n X dX10_throwsOfPair_1 1 rfl ?_
  refine A_iload_n X dX10_throwsOfPair_2 2 rfl ?_
  rcases sbd_o h with ⟨c9, hc9, rfl⟩ | ⟨t1, hct1, h⟩
  · exact A_cX (k' := 2) (n' := 12) rfl rfl (A_runVX (rest := []) X dX10_throwsOfPair_3 (c_X10_requirePair g0 g3 g4 g7  hc9) kY_X10_requirePair kw_1150 g0 rfl rfl ⟨(Nat.le_of_ble_eq_true rfl), (Nat.le_of_ble_eq_true rfl), (Nat.le_of_ble_eq_true rfl), (Nat.le_of_ble_eq_true rfl)⟩ rfl (Nat.le_of_ble_eq_true rfl)) (fun C hp1 hP => by obtain ⟨hC, rfl⟩ := hP; cases hC; exact A_out X htb ⟨rfl, rfl⟩ (Nat.le_of_ble_eq_true rfl) (Nat.le_of_ble_eq_true rfl)) (fun v hp1 al1 hP => by obtain ⟨u, hu, _⟩ := hP; cases hu)
  refine A_cX (k' := 2) (n' := 12) rfl rfl (A_runVX (rest := []) X dX10_throwsOfPair_3 (c_X10_requirePair g0 g3 g4 g7  hct1) kY_X10_requirePair kw_1150 g0 rfl rfl ⟨(Nat.le_of_ble_eq_true rfl), (Nat.le_of_ble_eq_true rfl), (Nat.le_of_ble_eq_true rfl), (Nat.le_of_ble_eq_true rfl)⟩ rfl (Nat.le_of_ble_eq_true rfl)) (fun C hp1 hP => by obtain ⟨hC, _⟩ := hP; cases hC) (fun v9 hp1 al9 hP => ?_)
  obtain ⟨u9, hu9, rfl, rfl, rfl⟩ := hP
  cases hu9
  refine A_st (st' := []) rfl ?_
  refine A_aload_n X dX10_throwsOfPair_6 0 rfl ?_
  refine A_get X dX10_throwsOfPair_7 kcl_X10 3 (by decide) kw_654 g0 rfl ?_
  refine A_get X dX10_throwsOfPair_10 kcl_X2 2 (by decide) kw_148 g3 rfl ?_
  refine A_iload_n X dX10_throwsOfPair_13 1 rfl ?_
  refine A_iload_n X dX10_throwsOfPair_14 2 rfl ?_
  obtain ⟨t2, hct2, h⟩ := bind_o h
  refine A_cp (k' := 2) (n' := 12) (A_runS (rest := [.ref (x + 10)]) X dX10_throwsOfPair_15 (c_X10_pairOf   hct2) kY_X10_pairOf kw_1154 ⟨(Nat.le_of_ble_eq_true rfl), (Nat.le_of_ble_eq_true rfl), (Nat.le_of_ble_eq_true rfl), (Nat.le_of_ble_eq_true rfl)⟩ rfl (Nat.le_of_ble_eq_true rfl)) rfl rfl ?_
  obtain ⟨t3, hct3, h⟩ := bind_o h
  refine A_cp (k' := 2) (n' := 12) (A_runV (rest := []) X dX10_throwsOfPair_18 (c_X4_pairThrows g10 g12  hct3) kY_X4_pairThrows kw_1155 g10 rfl rfl ⟨(Nat.le_of_ble_eq_true rfl), (Nat.le_of_ble_eq_true rfl), (Nat.le_of_ble_eq_true rfl), (Nat.le_of_ble_eq_true rfl)⟩ rfl (Nat.le_of_ble_eq_true rfl)) rfl rfl ?_
  cases h
  exact A_iretX X dX10_throwsOfPair_21 hr ⟨_, rfl, rfl, rfl, rfl⟩ (Nat.le_of_ble_eq_true rfl) (Nat.le_of_ble_eq_true rfl)
abbrev P_X10_frequency (E : KE) (x : Nat)  (hp : Hp) (al : Option Nat) (out : String ⊕ (Int32)) : Option Value → Hp → Option Nat → Prop := fun v0 hp' al' => ∃ u, out = .inr u ∧ v0 = some (.int u) ∧ hp = hp' ∧ al = al'
def f_X10_frequency (dc : Int32) (fc : Nat → Int32) (pc : Int32) (fr : Nat → Int32) (a0 : Int32) (a1 : Int32) (a2 : Int32) : Option (String ⊕ (Int32)) :=
  sbd (f_X10_requirePair dc pc a0 a1) fun t1 =>
  sbd (f_X10_requireFace fc a1 a2) fun t2 =>
  (f_X10_pairOf a0 a1).bind fun t3 =>
  (f_X10_cellOf t3 a2).bind fun t4 =>
  (f_X10_at 432 fr t4).bind fun t5 =>
  some (.inr t5)
set_option maxHeartbeats 4000000 in
set_option maxRecDepth 100000 in
theorem c_X10_frequency {E : KE} {l : Launch} {hp : Hp} {al : Option Nat} {x : Nat} {sd : Int32} {mn : Int32} {th : Int32} {dc : Int32} {fc : Nat → Int32} {pc : Int32} {tc : Int32} {fr : Nat → Int32} {a0 : Int32} {a1 : Int32} {a2 : Int32} {out : String ⊕ (Int32)} (g0 : hp x = some (.inr (10, [.ref (x + 126), .ref (x + 128), .ref (x + 1), .ref (x + 3), .ref (x + 16), .ref (x + 18), .ref (x + 124), .ref (x + 125)]))) (g3 : hp (x + 3) = some (.inr (2, [.ref (x + 4), .ref (x + 7), .ref (x + 10), .ref (x + 13), .int sd, .int mn, .int th]))) (g4 : hp (x + 4) = some (.inr (0, [.ref (x + 5), .ref (x + 6), .int dc]))) (g5 : hp (x + 5) = some (.inl (kC E 0, 6, .inl fc))) (g7 : hp (x + 7) = some (.inr (7, [.ref (x + 8), .ref (x + 9), .int pc]))) (g10 : hp (x + 10) = some (.inr (4, [.ref (x + 11), .ref (x + 12), .int tc]))) (g12 : hp (x + 12) = some (.inl (kC E 0, 432, .inl fr)))  (h : f_X10_frequency dc fc pc fr a0 a1 a2 = some out) : AX E l yX10_frequency cX10_frequency 4 (Option.some Jvm.ClassFile.FieldType.int) ⟨9, 3, 18, 146⟩ [.ref x, .int a0, .int a1, .int a2] hp al (P_X10_frequency E x hp al out) (kThr out hp) := by
  refine A_ofX (by decide +kernel) (Nat.le_of_ble_eq_true rfl) ?_
  intro p e s m args below meth c X hr htb
  have X : CX E p l s m args meth c "DiceAudit" cX10_frequency 4 := X
  refine A_L (L' := [(0, .ref x), (1, .int a0), (2, .int a1), (3, .int a2)]) rfl ?_
  unfold f_X10_frequency at h
  refine A_aload_n X dX10_frequency_0 0 rfl ?_
  refine A_iload_n X dX10_frequency_1 1 rfl ?_
  refine A_iload_n X dX10_frequency_2 2 rfl ?_
  rcases sbd_o h with ⟨c9, hc9, rfl⟩ | ⟨t1, hct1, h⟩
  · exact A_cX (k' := 2) (n' := 12) rfl rfl (A_runVX (rest := []) X dX10_frequency_3 (c_X10_requirePair g0 g3 g4 g7  hc9) kY_X10_requirePair kw_1150 g0 rfl rfl ⟨(Nat.le_of_ble_eq_true rfl), (Nat.le_of_ble_eq_true rfl), (Nat.le_of_ble_eq_true rfl), (Nat.le_of_ble_eq_true rfl)⟩ rfl (Nat.le_of_ble_eq_true rfl)) (fun C hp1 hP => by obtain ⟨hC, rfl⟩ := hP; cases hC; exact A_out X htb ⟨rfl, rfl⟩ (Nat.le_of_ble_eq_true rfl) (Nat.le_of_ble_eq_true rfl)) (fun v hp1 al1 hP => by obtain ⟨u, hu, _⟩ := hP; cases hu)
  refine A_cX (k' := 2) (n' := 12) rfl rfl (A_runVX (rest := []) X dX10_frequency_3 (c_X10_requirePair g0 g3 g4 g7  hct1) kY_X10_requirePair kw_1150 g0 rfl rfl ⟨(Nat.le_of_ble_eq_true rfl), (Nat.le_of_ble_eq_true rfl), (Nat.le_of_ble_eq_true rfl), (Nat.le_of_ble_eq_true rfl)⟩ rfl (Nat.le_of_ble_eq_true rfl)) (fun C hp1 hP => by obtain ⟨hC, _⟩ := hP; cases hC) (fun v9 hp1 al9 hP => ?_)
  obtain ⟨u9, hu9, rfl, rfl, rfl⟩ := hP
  cases hu9
  refine A_st (st' := []) rfl ?_
  refine A_aload_n X dX10_frequency_6 0 rfl ?_
  refine A_iload_n X dX10_frequency_7 2 rfl ?_
  refine A_iload_n X dX10_frequency_8 3 rfl ?_
  rcases sbd_o h with ⟨c9, hc9, rfl⟩ | ⟨t2, hct2, h⟩
  · exact A_cX (k' := 3) (n' := 18) rfl rfl (A_runVX (rest := []) X dX10_frequency_9 (c_X10_requireFace g0 g3 g4 g5  hc9) kY_X10_requireFace kw_989 g0 rfl rfl ⟨(Nat.le_of_ble_eq_true rfl), (Nat.le_of_ble_eq_true rfl), (Nat.le_of_ble_eq_true rfl), (Nat.le_of_ble_eq_true rfl)⟩ rfl (Nat.le_of_ble_eq_true rfl)) (fun C hp1 hP => by obtain ⟨hC, rfl⟩ := hP; cases hC; exact A_out X htb ⟨rfl, rfl⟩ (Nat.le_of_ble_eq_true rfl) (Nat.le_of_ble_eq_true rfl)) (fun v hp1 al1 hP => by obtain ⟨u, hu, _⟩ := hP; cases hu)
  refine A_cX (k' := 3) (n' := 18) rfl rfl (A_runVX (rest := []) X dX10_frequency_9 (c_X10_requireFace g0 g3 g4 g5  hct2) kY_X10_requireFace kw_989 g0 rfl rfl ⟨(Nat.le_of_ble_eq_true rfl), (Nat.le_of_ble_eq_true rfl), (Nat.le_of_ble_eq_true rfl), (Nat.le_of_ble_eq_true rfl)⟩ rfl (Nat.le_of_ble_eq_true rfl)) (fun C hp1 hP => by obtain ⟨hC, _⟩ := hP; cases hC) (fun v9 hp1 al9 hP => ?_)
  obtain ⟨u9, hu9, rfl, rfl, rfl⟩ := hP
  cases hu9
  refine A_st (st' := []) rfl ?_
  refine A_aload_n X dX10_frequency_12 0 rfl ?_
  refine A_get X dX10_frequency_13 kcl_X10 3 (by decide) kw_654 g0 rfl ?_
  refine A_get X dX10_frequency_16 kcl_X2 2 (by decide) kw_148 g3 rfl ?_
  refine A_get X dX10_frequency_19 kcl_X4 1 (by decide) kw_105 g10 rfl ?_
  refine A_iload_n X dX10_frequency_22 1 rfl ?_
  refine A_iload_n X dX10_frequency_23 2 rfl ?_
  obtain ⟨t3, hct3, h⟩ := bind_o h
  refine A_cp (k' := 3) (n' := 18) (A_runS (rest := [.ref (x + 12)]) X dX10_frequency_24 (c_X10_pairOf   hct3) kY_X10_pairOf kw_1154 ⟨(Nat.le_of_ble_eq_true rfl), (Nat.le_of_ble_eq_true rfl), (Nat.le_of_ble_eq_true rfl), (Nat.le_of_ble_eq_true rfl)⟩ rfl (Nat.le_of_ble_eq_true rfl)) rfl rfl ?_
  refine A_iload_n X dX10_frequency_27 3 rfl ?_
  obtain ⟨t4, hct4, h⟩ := bind_o h
  refine A_cp (k' := 3) (n' := 18) (A_runS (rest := [.ref (x + 12)]) X dX10_frequency_28 (c_X10_cellOf   hct4) kY_X10_cellOf kw_1017 ⟨(Nat.le_of_ble_eq_true rfl), (Nat.le_of_ble_eq_true rfl), (Nat.le_of_ble_eq_true rfl), (Nat.le_of_ble_eq_true rfl)⟩ rfl (Nat.le_of_ble_eq_true rfl)) rfl rfl ?_
  obtain ⟨t5, hct5, h⟩ := bind_o h
  refine A_cp (k' := 3) (n' := 18) (A_runS (rest := []) X dX10_frequency_31 (c_X10_at g12  hct5) kY_X10_at kw_536 ⟨(Nat.le_of_ble_eq_true rfl), (Nat.le_of_ble_eq_true rfl), (Nat.le_of_ble_eq_true rfl), (Nat.le_of_ble_eq_true rfl)⟩ rfl (Nat.le_of_ble_eq_true rfl)) rfl rfl ?_
  cases h
  exact A_iretX X dX10_frequency_34 hr ⟨_, rfl, rfl, rfl, rfl⟩ (Nat.le_of_ble_eq_true rfl) (Nat.le_of_ble_eq_true rfl)
abbrev P_X10_commonFace (E : KE) (x : Nat)  (hp : Hp) (al : Option Nat) (out : String ⊕ (Int32)) : Option Value → Hp → Option Nat → Prop := fun v0 hp' al' => ∃ u, out = .inr u ∧ v0 = some (.int u) ∧ hp = hp' ∧ al = al'
def f_X10_commonFace (N : Nat) (dc : Int32) (fc : Nat → Int32) (pc : Int32) (fr : Nat → Int32) (a0 : Int32) (a1 : Int32) : Option (String ⊕ (Int32)) :=
  sbd (f_X10_requirePair dc pc a0 a1) fun t1 =>
  (f_X10_pairOf a0 a1).bind fun t2 =>
  (f_X10_cellOf t2 1).bind fun t3 =>
  (f_X0_faceCount fc a1).bind fun t4 =>
  (f_X10_greatestCell N 432 fr t3 t4).bind fun t5 =>
  some (.inr t5)
set_option maxHeartbeats 4000000 in
set_option maxRecDepth 100000 in
theorem c_X10_commonFace {E : KE} {l : Launch} {hp : Hp} {al : Option Nat} {N : Nat} {x : Nat} {sd : Int32} {mn : Int32} {th : Int32} {dc : Int32} {fc : Nat → Int32} {pc : Int32} {tc : Int32} {fr : Nat → Int32} {a0 : Int32} {a1 : Int32} {out : String ⊕ (Int32)} (g0 : hp x = some (.inr (10, [.ref (x + 126), .ref (x + 128), .ref (x + 1), .ref (x + 3), .ref (x + 16), .ref (x + 18), .ref (x + 124), .ref (x + 125)]))) (g3 : hp (x + 3) = some (.inr (2, [.ref (x + 4), .ref (x + 7), .ref (x + 10), .ref (x + 13), .int sd, .int mn, .int th]))) (g4 : hp (x + 4) = some (.inr (0, [.ref (x + 5), .ref (x + 6), .int dc]))) (g5 : hp (x + 5) = some (.inl (kC E 0, 6, .inl fc))) (g7 : hp (x + 7) = some (.inr (7, [.ref (x + 8), .ref (x + 9), .int pc]))) (g10 : hp (x + 10) = some (.inr (4, [.ref (x + 11), .ref (x + 12), .int tc]))) (g12 : hp (x + 12) = some (.inl (kC E 0, 432, .inl fr)))  (h : f_X10_commonFace N dc fc pc fr a0 a1 = some out) : AX E l yX10_commonFace cX10_commonFace 4 (Option.some Jvm.ClassFile.FieldType.int) ⟨9, 2, 12, 146⟩ [.ref x, .int a0, .int a1] hp al (P_X10_commonFace E x hp al out) (kThr out hp) := by
  refine A_ofX (by decide +kernel) (Nat.le_of_ble_eq_true rfl) ?_
  intro p e s m args below meth c X hr htb
  have X : CX E p l s m args meth c "DiceAudit" cX10_commonFace 4 := X
  refine A_L (L' := [(0, .ref x), (1, .int a0), (2, .int a1)]) rfl ?_
  unfold f_X10_commonFace at h
  refine A_aload_n X dX10_commonFace_0 0 rfl ?_
  refine A_iload_n X dX10_commonFace_1 1 rfl ?_
  refine A_iload_n X dX10_commonFace_2 2 rfl ?_
  rcases sbd_o h with ⟨c9, hc9, rfl⟩ | ⟨t1, hct1, h⟩
  · exact A_cX (k' := 2) (n' := 12) rfl rfl (A_runVX (rest := []) X dX10_commonFace_3 (c_X10_requirePair g0 g3 g4 g7  hc9) kY_X10_requirePair kw_1150 g0 rfl rfl ⟨(Nat.le_of_ble_eq_true rfl), (Nat.le_of_ble_eq_true rfl), (Nat.le_of_ble_eq_true rfl), (Nat.le_of_ble_eq_true rfl)⟩ rfl (Nat.le_of_ble_eq_true rfl)) (fun C hp1 hP => by obtain ⟨hC, rfl⟩ := hP; cases hC; exact A_out X htb ⟨rfl, rfl⟩ (Nat.le_of_ble_eq_true rfl) (Nat.le_of_ble_eq_true rfl)) (fun v hp1 al1 hP => by obtain ⟨u, hu, _⟩ := hP; cases hu)
  refine A_cX (k' := 2) (n' := 12) rfl rfl (A_runVX (rest := []) X dX10_commonFace_3 (c_X10_requirePair g0 g3 g4 g7  hct1) kY_X10_requirePair kw_1150 g0 rfl rfl ⟨(Nat.le_of_ble_eq_true rfl), (Nat.le_of_ble_eq_true rfl), (Nat.le_of_ble_eq_true rfl), (Nat.le_of_ble_eq_true rfl)⟩ rfl (Nat.le_of_ble_eq_true rfl)) (fun C hp1 hP => by obtain ⟨hC, _⟩ := hP; cases hC) (fun v9 hp1 al9 hP => ?_)
  obtain ⟨u9, hu9, rfl, rfl, rfl⟩ := hP
  cases hu9
  refine A_st (st' := []) rfl ?_
  refine A_iload_n X dX10_commonFace_6 1 rfl ?_
  refine A_iload_n X dX10_commonFace_7 2 rfl ?_
  obtain ⟨t2, hct2, h⟩ := bind_o h
  refine A_cp (k' := 2) (n' := 12) (A_runS (rest := []) X dX10_commonFace_8 (c_X10_pairOf   hct2) kY_X10_pairOf kw_1154 ⟨(Nat.le_of_ble_eq_true rfl), (Nat.le_of_ble_eq_true rfl), (Nat.le_of_ble_eq_true rfl), (Nat.le_of_ble_eq_true rfl)⟩ rfl (Nat.le_of_ble_eq_true rfl)) rfl rfl ?_
  refine A_istore_n (L' := [(3, .int t2), (0, .ref x), (1, .int a0), (2, .int a1)]) X dX10_commonFace_11 rfl (by decide) rfl ?_
  refine A_aload_n X dX10_commonFace_12 1 rfl ?_
  refine A_get X dX10_commonFace_13 kcl_X10 3 (by decide) kw_654 g0 rfl ?_
  refine A_get X dX10_commonFace_16 kcl_X2 2 (by decide) kw_148 g3 rfl ?_
  refine A_get X dX10_commonFace_19 kcl_X4 1 (by decide) kw_105 g10 rfl ?_
  refine A_iload_n X dX10_commonFace_22 0 rfl ?_
  refine A_iconst (v := 1) X dX10_commonFace_23 (by decide) ?_
  obtain ⟨t3, hct3, h⟩ := bind_o h
  refine A_cp (k' := 2) (n' := 12) (A_runS (rest := [.ref (x + 12)]) X dX10_commonFace_24 (c_X10_cellOf   hct3) kY_X10_cellOf kw_1017 ⟨(Nat.le_of_ble_eq_true rfl), (Nat.le_of_ble_eq_true rfl), (Nat.le_of_ble_eq_true rfl), (Nat.le_of_ble_eq_true rfl)⟩ rfl (Nat.le_of_ble_eq_true rfl)) rfl rfl ?_
  refine A_aload_n X dX10_commonFace_27 1 rfl ?_
  refine A_get X dX10_commonFace_28 kcl_X10 3 (by decide) kw_654 g0 rfl ?_
  refine A_get X dX10_commonFace_31 kcl_X2 0 (by decide) kw_142 g3 rfl ?_
  refine A_iload_n X dX10_commonFace_34 3 rfl ?_
  obtain ⟨t4, hct4, h⟩ := bind_o h
  refine A_cp (k' := 2) (n' := 12) (A_runV (rest := [.int t3, .ref (x + 12)]) X dX10_commonFace_35 (c_X0_faceCount g4 g5  hct4) kY_X0_faceCount kw_981 g4 rfl rfl ⟨(Nat.le_of_ble_eq_true rfl), (Nat.le_of_ble_eq_true rfl), (Nat.le_of_ble_eq_true rfl), (Nat.le_of_ble_eq_true rfl)⟩ rfl (Nat.le_of_ble_eq_true rfl)) rfl rfl ?_
  obtain ⟨t5, hct5, h⟩ := bind_o h
  refine A_cp (k' := 2) (n' := 12) (A_runS (rest := []) X dX10_commonFace_38 (c_X10_greatestCell g12  hct5) kY_X10_greatestCell kw_1018 ⟨(Nat.le_of_ble_eq_true rfl), (Nat.le_of_ble_eq_true rfl), (Nat.le_of_ble_eq_true rfl), (Nat.le_of_ble_eq_true rfl)⟩ rfl (Nat.le_of_ble_eq_true rfl)) rfl rfl ?_
  cases h
  exact A_iretX X dX10_commonFace_41 hr ⟨_, rfl, rfl, rfl, rfl⟩ (Nat.le_of_ble_eq_true rfl) (Nat.le_of_ble_eq_true rfl)
abbrev P_X10_facesSeen (E : KE) (x : Nat)  (hp : Hp) (al : Option Nat) (out : String ⊕ (Int32)) : Option Value → Hp → Option Nat → Prop := fun v0 hp' al' => ∃ u, out = .inr u ∧ v0 = some (.int u) ∧ hp = hp' ∧ al = al'
def f_X10_facesSeen (N : Nat) (dc : Int32) (pc : Int32) (fr : Nat → Int32) (a0 : Int32) (a1 : Int32) : Option (String ⊕ (Int32)) :=
  sbd (f_X10_requirePair dc pc a0 a1) fun t1 =>
  (f_X10_pairOf a0 a1).bind fun t2 =>
  (f_X4_distinctFaces N fr t2).bind fun t3 =>
  some (.inr t3)
set_option maxHeartbeats 4000000 in
set_option maxRecDepth 100000 in
theorem c_X10_facesSeen {E : KE} {l : Launch} {hp : Hp} {al : Option Nat} {N : Nat} {x : Nat} {sd : Int32} {mn : Int32} {th : Int32} {dc : Int32} {pc : Int32} {tc : Int32} {fr : Nat → Int32} {a0 : Int32} {a1 : Int32} {out : String ⊕ (Int32)} (g0 : hp x = some (.inr (10, [.ref (x + 126), .ref (x + 128), .ref (x + 1), .ref (x + 3), .ref (x + 16), .ref (x + 18), .ref (x + 124), .ref (x + 125)]))) (g3 : hp (x + 3) = some (.inr (2, [.ref (x + 4), .ref (x + 7), .ref (x + 10), .ref (x + 13), .int sd, .int mn, .int th]))) (g4 : hp (x + 4) = some (.inr (0, [.ref (x + 5), .ref (x + 6), .int dc]))) (g7 : hp (x + 7) = some (.inr (7, [.ref (x + 8), .ref (x + 9), .int pc]))) (g10 : hp (x + 10) = some (.inr (4, [.ref (x + 11), .ref (x + 12), .int tc]))) (g12 : hp (x + 12) = some (.inl (kC E 0, 432, .inl fr)))  (h : f_X10_facesSeen N dc pc fr a0 a1 = some out) : AX E l yX10_facesSeen cX10_facesSeen 3 (Option.some Jvm.ClassFile.FieldType.int) ⟨9, 2, 12, 146⟩ [.ref x, .int a0, .int a1] hp al (P_X10_facesSeen E x hp al out) (kThr out hp) := by
  refine A_ofX (by decide +kernel) (Nat.le_of_ble_eq_true rfl) ?_
  intro p e s m args below meth c X hr htb
  have X : CX E p l s m args meth c "DiceAudit" cX10_facesSeen 3 := X
  refine A_L (L' := [(0, .ref x), (1, .int a0), (2, .int a1)]) rfl ?_
  unfold f_X10_facesSeen at h
  refine A_aload_n X dX10_facesSeen_0 0 rfl ?_
  refine A_iload_n X dX10_facesSeen_1 1 rfl ?_
  refine A_iload_n X dX10_facesSeen_2 2 rfl ?_
  rcases sbd_o h with ⟨c9, hc9, rfl⟩ | ⟨t1, hct1, h⟩
  · exact A_cX (k' := 2) (n' := 12) rfl rfl (A_runVX (rest := []) X dX10_facesSeen_3 (c_X10_requirePair g0 g3 g4 g7  hc9) kY_X10_requirePair kw_1150 g0 rfl rfl ⟨(Nat.le_of_ble_eq_true rfl), (Nat.le_of_ble_eq_true rfl), (Nat.le_of_ble_eq_true rfl), (Nat.le_of_ble_eq_true rfl)⟩ rfl (Nat.le_of_ble_eq_true rfl)) (fun C hp1 hP => by obtain ⟨hC, rfl⟩ := hP; cases hC; exact A_out X htb ⟨rfl, rfl⟩ (Nat.le_of_ble_eq_true rfl) (Nat.le_of_ble_eq_true rfl)) (fun v hp1 al1 hP => by obtain ⟨u, hu, _⟩ := hP; cases hu)
  refine A_cX (k' := 2) (n' := 12) rfl rfl (A_runVX (rest := []) X dX10_facesSeen_3 (c_X10_requirePair g0 g3 g4 g7  hct1) kY_X10_requirePair kw_1150 g0 rfl rfl ⟨(Nat.le_of_ble_eq_true rfl), (Nat.le_of_ble_eq_true rfl), (Nat.le_of_ble_eq_true rfl), (Nat.le_of_ble_eq_true rfl)⟩ rfl (Nat.le_of_ble_eq_true rfl)) (fun C hp1 hP => by obtain ⟨hC, _⟩ := hP; cases hC) (fun v9 hp1 al9 hP => ?_)
  obtain ⟨u9, hu9, rfl, rfl, rfl⟩ := hP
  cases hu9
  refine A_st (st' := []) rfl ?_
  refine A_aload_n X dX10_facesSeen_6 0 rfl ?_
  refine A_get X dX10_facesSeen_7 kcl_X10 3 (by decide) kw_654 g0 rfl ?_
  refine A_get X dX10_facesSeen_10 kcl_X2 2 (by decide) kw_148 g3 rfl ?_
  refine A_iload_n X dX10_facesSeen_13 1 rfl ?_
  refine A_iload_n X dX10_facesSeen_14 2 rfl ?_
  obtain ⟨t2, hct2, h⟩ := bind_o h
  refine A_cp (k' := 2) (n' := 12) (A_runS (rest := [.ref (x + 10)]) X dX10_facesSeen_15 (c_X10_pairOf   hct2) kY_X10_pairOf kw_1154 ⟨(Nat.le_of_ble_eq_true rfl), (Nat.le_of_ble_eq_true rfl), (Nat.le_of_ble_eq_true rfl), (Nat.le_of_ble_eq_true rfl)⟩ rfl (Nat.le_of_ble_eq_true rfl)) rfl rfl ?_
  obtain ⟨t3, hct3, h⟩ := bind_o h
  refine A_cp (k' := 2) (n' := 12) (A_runV (rest := []) X dX10_facesSeen_18 (c_X4_distinctFaces g10 g12  hct3) kY_X4_distinctFaces kw_1177 g10 rfl rfl ⟨(Nat.le_of_ble_eq_true rfl), (Nat.le_of_ble_eq_true rfl), (Nat.le_of_ble_eq_true rfl), (Nat.le_of_ble_eq_true rfl)⟩ rfl (Nat.le_of_ble_eq_true rfl)) rfl rfl ?_
  cases h
  exact A_iretX X dX10_facesSeen_21 hr ⟨_, rfl, rfl, rfl, rfl⟩ (Nat.le_of_ble_eq_true rfl) (Nat.le_of_ble_eq_true rfl)
abbrev P_X10_latestThrow (E : KE) (x : Nat)  (hp : Hp) (al : Option Nat) (out : String ⊕ (Int32)) : Option Value → Hp → Option Nat → Prop := fun v0 hp' al' => ∃ u, out = .inr u ∧ v0 = some (.int u) ∧ hp = hp' ∧ al = al'
def f_X10_latestThrow (N : Nat) (dc : Int32) (pc : Int32) (tc : Int32) (en : Nat → Int32) (a0 : Int32) (a1 : Int32) : Option (String ⊕ (Int32)) :=
  sbd (f_X10_requirePair dc pc a0 a1) fun t1 =>
  (f_X10_pairOf a0 a1).bind fun t2 =>
  (f_X4_latestOf N tc en t2).bind fun t3 =>
  some (.inr t3)
set_option maxHeartbeats 4000000 in
set_option maxRecDepth 100000 in
theorem c_X10_latestThrow {E : KE} {l : Launch} {hp : Hp} {al : Option Nat} {N : Nat} {x : Nat} {sd : Int32} {mn : Int32} {th : Int32} {dc : Int32} {pc : Int32} {tc : Int32} {en : Nat → Int32} {a0 : Int32} {a1 : Int32} {out : String ⊕ (Int32)} (g0 : hp x = some (.inr (10, [.ref (x + 126), .ref (x + 128), .ref (x + 1), .ref (x + 3), .ref (x + 16), .ref (x + 18), .ref (x + 124), .ref (x + 125)]))) (g3 : hp (x + 3) = some (.inr (2, [.ref (x + 4), .ref (x + 7), .ref (x + 10), .ref (x + 13), .int sd, .int mn, .int th]))) (g4 : hp (x + 4) = some (.inr (0, [.ref (x + 5), .ref (x + 6), .int dc]))) (g7 : hp (x + 7) = some (.inr (7, [.ref (x + 8), .ref (x + 9), .int pc]))) (g10 : hp (x + 10) = some (.inr (4, [.ref (x + 11), .ref (x + 12), .int tc]))) (g11 : hp (x + 11) = some (.inl (kC E 0, 300, .inl en)))  (h : f_X10_latestThrow N dc pc tc en a0 a1 = some out) : AX E l yX10_latestThrow cX10_latestThrow 3 (Option.some Jvm.ClassFile.FieldType.int) ⟨9, 2, 12, 146⟩ [.ref x, .int a0, .int a1] hp al (P_X10_latestThrow E x hp al out) (kThr out hp) := by
  refine A_ofX (by decide +kernel) (Nat.le_of_ble_eq_true rfl) ?_
  intro p e s m args below meth c X hr htb
  have X : CX E p l s m args meth c "DiceAudit" cX10_latestThrow 3 := X
  refine A_L (L' := [(0, .ref x), (1, .int a0), (2, .int a1)]) rfl ?_
  unfold f_X10_latestThrow at h
  refine A_aload_n X dX10_latestThrow_0 0 rfl ?_
  refine A_iload_n X dX10_latestThrow_1 1 rfl ?_
  refine A_iload_n X dX10_latestThrow_2 2 rfl ?_
  rcases sbd_o h with ⟨c9, hc9, rfl⟩ | ⟨t1, hct1, h⟩
  · exact A_cX (k' := 2) (n' := 12) rfl rfl (A_runVX (rest := []) X dX10_latestThrow_3 (c_X10_requirePair g0 g3 g4 g7  hc9) kY_X10_requirePair kw_1150 g0 rfl rfl ⟨(Nat.le_of_ble_eq_true rfl), (Nat.le_of_ble_eq_true rfl), (Nat.le_of_ble_eq_true rfl), (Nat.le_of_ble_eq_true rfl)⟩ rfl (Nat.le_of_ble_eq_true rfl)) (fun C hp1 hP => by obtain ⟨hC, rfl⟩ := hP; cases hC; exact A_out X htb ⟨rfl, rfl⟩ (Nat.le_of_ble_eq_true rfl) (Nat.le_of_ble_eq_true rfl)) (fun v hp1 al1 hP => by obtain ⟨u, hu, _⟩ := hP; cases hu)
  refine A_cX (k' := 2) (n' := 12) rfl rfl (A_runVX (rest := []) X dX10_latestThrow_3 (c_X10_requirePair g0 g3 g4 g7  hct1) kY_X10_requirePair kw_1150 g0 rfl rfl ⟨(Nat.le_of_ble_eq_true rfl), (Nat.le_of_ble_eq_true rfl), (Nat.le_of_ble_eq_true rfl), (Nat.le_of_ble_eq_true rfl)⟩ rfl (Nat.le_of_ble_eq_true rfl)) (fun C hp1 hP => by obtain ⟨hC, _⟩ := hP; cases hC) (fun v9 hp1 al9 hP => ?_)
  obtain ⟨u9, hu9, rfl, rfl, rfl⟩ := hP
  cases hu9
  refine A_st (st' := []) rfl ?_
  refine A_aload_n X dX10_latestThrow_6 0 rfl ?_
  refine A_get X dX10_latestThrow_7 kcl_X10 3 (by decide) kw_654 g0 rfl ?_
  refine A_get X dX10_latestThrow_10 kcl_X2 2 (by decide) kw_148 g3 rfl ?_
  refine A_iload_n X dX10_latestThrow_13 1 rfl ?_
  refine A_iload_n X dX10_latestThrow_14 2 rfl ?_
  obtain ⟨t2, hct2, h⟩ := bind_o h
  refine A_cp (k' := 2) (n' := 12) (A_runS (rest := [.ref (x + 10)]) X dX10_latestThrow_15 (c_X10_pairOf   hct2) kY_X10_pairOf kw_1154 ⟨(Nat.le_of_ble_eq_true rfl), (Nat.le_of_ble_eq_true rfl), (Nat.le_of_ble_eq_true rfl), (Nat.le_of_ble_eq_true rfl)⟩ rfl (Nat.le_of_ble_eq_true rfl)) rfl rfl ?_
  obtain ⟨t3, hct3, h⟩ := bind_o h
  refine A_cp (k' := 2) (n' := 12) (A_runV (rest := []) X dX10_latestThrow_18 (c_X4_latestOf g10 g11  hct3) kY_X4_latestOf kw_1188 g10 rfl rfl ⟨(Nat.le_of_ble_eq_true rfl), (Nat.le_of_ble_eq_true rfl), (Nat.le_of_ble_eq_true rfl), (Nat.le_of_ble_eq_true rfl)⟩ rfl (Nat.le_of_ble_eq_true rfl)) rfl rfl ?_
  cases h
  exact A_iretX X dX10_latestThrow_21 hr ⟨_, rfl, rfl, rfl, rfl⟩ (Nat.le_of_ble_eq_true rfl) (Nat.le_of_ble_eq_true rfl)
abbrev P_X10_score (E : KE) (x : Nat)  (hp : Hp) (al : Option Nat) (out : String ⊕ (Int32)) : Option Value → Hp → Option Nat → Prop := fun v0 hp' al' => ∃ u, out = .inr u ∧ v0 = some (.int u) ∧ hp = hp' ∧ al = al'
def f_X10_score (N : Nat) (dc : Int32) (fc : Nat → Int32) (pc : Int32) (fr : Nat → Int32) (a0 : Int32) (a1 : Int32) : Option (String ⊕ (Int32)) :=
  sbd (f_X10_requirePair dc pc a0 a1) fun t1 =>
  (f_X10_pairOf a0 a1).bind fun t2 =>
  (f_X2_pairScore N fc fr t2).bind fun t3 =>
  some (.inr t3)
set_option maxHeartbeats 4000000 in
set_option maxRecDepth 100000 in
theorem c_X10_score {E : KE} {l : Launch} {hp : Hp} {al : Option Nat} {N : Nat} {x : Nat} {sd : Int32} {mn : Int32} {th : Int32} {dc : Int32} {fc : Nat → Int32} {pc : Int32} {tc : Int32} {fr : Nat → Int32} {a0 : Int32} {a1 : Int32} {out : String ⊕ (Int32)} (g0 : hp x = some (.inr (10, [.ref (x + 126), .ref (x + 128), .ref (x + 1), .ref (x + 3), .ref (x + 16), .ref (x + 18), .ref (x + 124), .ref (x + 125)]))) (g3 : hp (x + 3) = some (.inr (2, [.ref (x + 4), .ref (x + 7), .ref (x + 10), .ref (x + 13), .int sd, .int mn, .int th]))) (g4 : hp (x + 4) = some (.inr (0, [.ref (x + 5), .ref (x + 6), .int dc]))) (g5 : hp (x + 5) = some (.inl (kC E 0, 6, .inl fc))) (g7 : hp (x + 7) = some (.inr (7, [.ref (x + 8), .ref (x + 9), .int pc]))) (g10 : hp (x + 10) = some (.inr (4, [.ref (x + 11), .ref (x + 12), .int tc]))) (g12 : hp (x + 12) = some (.inl (kC E 0, 432, .inl fr)))  (h : f_X10_score N dc fc pc fr a0 a1 = some out) : AX E l yX10_score cX10_score 3 (Option.some Jvm.ClassFile.FieldType.int) ⟨9, 2, 12, 146⟩ [.ref x, .int a0, .int a1] hp al (P_X10_score E x hp al out) (kThr out hp) := by
  refine A_ofX (by decide +kernel) (Nat.le_of_ble_eq_true rfl) ?_
  intro p e s m args below meth c X hr htb
  have X : CX E p l s m args meth c "DiceAudit" cX10_score 3 := X
  refine A_L (L' := [(0, .ref x), (1, .int a0), (2, .int a1)]) rfl ?_
  unfold f_X10_score at h
  refine A_aload_n X dX10_score_0 0 rfl ?_
  refine A_iload_n X dX10_score_1 1 rfl ?_
  refine A_iload_n X dX10_score_2 2 rfl ?_
  rcases sbd_o h with ⟨c9, hc9, rfl⟩ | ⟨t1, hct1, h⟩
  · exact A_cX (k' := 2) (n' := 12) rfl rfl (A_runVX (rest := []) X dX10_score_3 (c_X10_requirePair g0 g3 g4 g7  hc9) kY_X10_requirePair kw_1150 g0 rfl rfl ⟨(Nat.le_of_ble_eq_true rfl), (Nat.le_of_ble_eq_true rfl), (Nat.le_of_ble_eq_true rfl), (Nat.le_of_ble_eq_true rfl)⟩ rfl (Nat.le_of_ble_eq_true rfl)) (fun C hp1 hP => by obtain ⟨hC, rfl⟩ := hP; cases hC; exact A_out X htb ⟨rfl, rfl⟩ (Nat.le_of_ble_eq_true rfl) (Nat.le_of_ble_eq_true rfl)) (fun v hp1 al1 hP => by obtain ⟨u, hu, _⟩ := hP; cases hu)
  refine A_cX (k' := 2) (n' := 12) rfl rfl (A_runVX (rest := []) X dX10_score_3 (c_X10_requirePair g0 g3 g4 g7  hct1) kY_X10_requirePair kw_1150 g0 rfl rfl ⟨(Nat.le_of_ble_eq_true rfl), (Nat.le_of_ble_eq_true rfl), (Nat.le_of_ble_eq_true rfl), (Nat.le_of_ble_eq_true rfl)⟩ rfl (Nat.le_of_ble_eq_true rfl)) (fun C hp1 hP => by obtain ⟨hC, _⟩ := hP; cases hC) (fun v9 hp1 al9 hP => ?_)
  obtain ⟨u9, hu9, rfl, rfl, rfl⟩ := hP
  cases hu9
  refine A_st (st' := []) rfl ?_
  refine A_aload_n X dX10_score_6 0 rfl ?_
  refine A_get X dX10_score_7 kcl_X10 3 (by decide) kw_654 g0 rfl ?_
  refine A_iload_n X dX10_score_10 1 rfl ?_
  refine A_iload_n X dX10_score_11 2 rfl ?_
  obtain ⟨t2, hct2, h⟩ := bind_o h
  refine A_cp (k' := 2) (n' := 12) (A_runS (rest := [.ref (x + 3)]) X dX10_score_12 (c_X10_pairOf   hct2) kY_X10_pairOf kw_1154 ⟨(Nat.le_of_ble_eq_true rfl), (Nat.le_of_ble_eq_true rfl), (Nat.le_of_ble_eq_true rfl), (Nat.le_of_ble_eq_true rfl)⟩ rfl (Nat.le_of_ble_eq_true rfl)) rfl rfl ?_
  obtain ⟨t3, hct3, h⟩ := bind_o h
  refine A_cp (k' := 2) (n' := 12) (A_runV (rest := []) X dX10_score_15 (c_X2_pairScore g3 g4 g5 g10 g12  hct3) kY_X2_pairScore kw_1199 g3 rfl rfl ⟨(Nat.le_of_ble_eq_true rfl), (Nat.le_of_ble_eq_true rfl), (Nat.le_of_ble_eq_true rfl), (Nat.le_of_ble_eq_true rfl)⟩ rfl (Nat.le_of_ble_eq_true rfl)) rfl rfl ?_
  cases h
  exact A_iretX X dX10_score_18 hr ⟨_, rfl, rfl, rfl, rfl⟩ (Nat.le_of_ble_eq_true rfl) (Nat.le_of_ble_eq_true rfl)
abbrev P_X10_isSuspicious (E : KE) (x : Nat)  (hp : Hp) (al : Option Nat) (out : String ⊕ (Int32)) : Option Value → Hp → Option Nat → Prop := fun v0 hp' al' => ∃ u, out = .inr u ∧ v0 = some (.int u) ∧ (u = 0 ∨ u = 1) ∧ hp = hp' ∧ al = al'
def f_X10_isSuspicious (N : Nat) (mn : Int32) (th : Int32) (dc : Int32) (fc : Nat → Int32) (pc : Int32) (fr : Nat → Int32) (a0 : Int32) (a1 : Int32) : Option (String ⊕ (Int32)) :=
  sbd (f_X10_requirePair dc pc a0 a1) fun t1 =>
  (f_X10_pairOf a0 a1).bind fun t2 =>
  (f_X2_isPairSuspicious N mn th fc fr t2).bind fun t3 =>
  some (.inr t3)
set_option maxHeartbeats 4000000 in
set_option maxRecDepth 100000 in
theorem c_X10_isSuspicious {E : KE} {l : Launch} {hp : Hp} {al : Option Nat} {N : Nat} {x : Nat} {sd : Int32} {mn : Int32} {th : Int32} {dc : Int32} {fc : Nat → Int32} {pc : Int32} {tc : Int32} {fr : Nat → Int32} {a0 : Int32} {a1 : Int32} {out : String ⊕ (Int32)} (g0 : hp x = some (.inr (10, [.ref (x + 126), .ref (x + 128), .ref (x + 1), .ref (x + 3), .ref (x + 16), .ref (x + 18), .ref (x + 124), .ref (x + 125)]))) (g3 : hp (x + 3) = some (.inr (2, [.ref (x + 4), .ref (x + 7), .ref (x + 10), .ref (x + 13), .int sd, .int mn, .int th]))) (g4 : hp (x + 4) = some (.inr (0, [.ref (x + 5), .ref (x + 6), .int dc]))) (g5 : hp (x + 5) = some (.inl (kC E 0, 6, .inl fc))) (g7 : hp (x + 7) = some (.inr (7, [.ref (x + 8), .ref (x + 9), .int pc]))) (g10 : hp (x + 10) = some (.inr (4, [.ref (x + 11), .ref (x + 12), .int tc]))) (g12 : hp (x + 12) = some (.inl (kC E 0, 432, .inl fr)))  (h : f_X10_isSuspicious N mn th dc fc pc fr a0 a1 = some out) : AX E l yX10_isSuspicious cX10_isSuspicious 3 (Option.some Jvm.ClassFile.FieldType.boolean) ⟨9, 2, 12, 146⟩ [.ref x, .int a0, .int a1] hp al (P_X10_isSuspicious E x hp al out) (kThr out hp) := by
  refine A_ofX (by decide +kernel) (Nat.le_of_ble_eq_true rfl) ?_
  intro p e s m args below meth c X hr htb
  have X : CX E p l s m args meth c "DiceAudit" cX10_isSuspicious 3 := X
  refine A_L (L' := [(0, .ref x), (1, .int a0), (2, .int a1)]) rfl ?_
  unfold f_X10_isSuspicious at h
  refine A_aload_n X dX10_isSuspicious_0 0 rfl ?_
  refine A_iload_n X dX10_isSuspicious_1 1 rfl ?_
  refine A_iload_n X dX10_isSuspicious_2 2 rfl ?_
  rcases sbd_o h with ⟨c9, hc9, rfl⟩ | ⟨t1, hct1, h⟩
  · exact A_cX (k' := 2) (n' := 12) rfl rfl (A_runVX (rest := []) X dX10_isSuspicious_3 (c_X10_requirePair g0 g3 g4 g7  hc9) kY_X10_requirePair kw_1150 g0 rfl rfl ⟨(Nat.le_of_ble_eq_true rfl), (Nat.le_of_ble_eq_true rfl), (Nat.le_of_ble_eq_true rfl), (Nat.le_of_ble_eq_true rfl)⟩ rfl (Nat.le_of_ble_eq_true rfl)) (fun C hp1 hP => by obtain ⟨hC, rfl⟩ := hP; cases hC; exact A_out X htb ⟨rfl, rfl⟩ (Nat.le_of_ble_eq_true rfl) (Nat.le_of_ble_eq_true rfl)) (fun v hp1 al1 hP => by obtain ⟨u, hu, _⟩ := hP; cases hu)
  refine A_cX (k' := 2) (n' := 12) rfl rfl (A_runVX (rest := []) X dX10_isSuspicious_3 (c_X10_requirePair g0 g3 g4 g7  hct1) kY_X10_requirePair kw_1150 g0 rfl rfl ⟨(Nat.le_of_ble_eq_true rfl), (Nat.le_of_ble_eq_true rfl), (Nat.le_of_ble_eq_true rfl), (Nat.le_of_ble_eq_true rfl)⟩ rfl (Nat.le_of_ble_eq_true rfl)) (fun C hp1 hP => by obtain ⟨hC, _⟩ := hP; cases hC) (fun v9 hp1 al9 hP => ?_)
  obtain ⟨u9, hu9, rfl, rfl, rfl⟩ := hP
  cases hu9
  refine A_st (st' := []) rfl ?_
  refine A_aload_n X dX10_isSuspicious_6 0 rfl ?_
  refine A_get X dX10_isSuspicious_7 kcl_X10 3 (by decide) kw_654 g0 rfl ?_
  refine A_iload_n X dX10_isSuspicious_10 1 rfl ?_
  refine A_iload_n X dX10_isSuspicious_11 2 rfl ?_
  obtain ⟨t2, hct2, h⟩ := bind_o h
  refine A_cp (k' := 2) (n' := 12) (A_runS (rest := [.ref (x + 3)]) X dX10_isSuspicious_12 (c_X10_pairOf   hct2) kY_X10_pairOf kw_1154 ⟨(Nat.le_of_ble_eq_true rfl), (Nat.le_of_ble_eq_true rfl), (Nat.le_of_ble_eq_true rfl), (Nat.le_of_ble_eq_true rfl)⟩ rfl (Nat.le_of_ble_eq_true rfl)) rfl rfl ?_
  obtain ⟨t3, hct3, h⟩ := bind_o h
  refine A_c (k' := 2) (n' := 12) rfl rfl (A_runV (rest := []) X dX10_isSuspicious_15 (c_X2_isPairSuspicious g3 g4 g5 g10 g12  hct3) kY_X2_isPairSuspicious kw_1207 g3 rfl rfl ⟨(Nat.le_of_ble_eq_true rfl), (Nat.le_of_ble_eq_true rfl), (Nat.le_of_ble_eq_true rfl), (Nat.le_of_ble_eq_true rfl)⟩ rfl (Nat.le_of_ble_eq_true rfl)) (fun v9 hp1 al9 hP => ?_)
  obtain ⟨rfl, zt3, rfl, rfl⟩ := hP
  refine A_st (st' := [.int t3]) rfl ?_
  cases h
  exact A_zretX X dX10_isSuspicious_18 hr zt3 ⟨_, rfl, rfl, zt3, rfl, rfl⟩ (Nat.le_of_ble_eq_true rfl) (Nat.le_of_ble_eq_true rfl)
def f_X10_suspiciousPairs (N : Nat) (mn : Int32) (th : Int32) (fc : Nat → Int32) (fr : Nat → Int32)  : Option (Int32) :=
  (f_X2_countSuspicious N mn th fc fr).bind fun t1 =>
  some t1
set_option maxHeartbeats 4000000 in
set_option maxRecDepth 100000 in
theorem c_X10_suspiciousPairs {E : KE} {l : Launch} {hp : Hp} {al : Option Nat} {N : Nat} {x : Nat} {sd : Int32} {mn : Int32} {th : Int32} {dc : Int32} {fc : Nat → Int32} {tc : Int32} {fr : Nat → Int32}  {out : Int32} (g0 : hp x = some (.inr (10, [.ref (x + 126), .ref (x + 128), .ref (x + 1), .ref (x + 3), .ref (x + 16), .ref (x + 18), .ref (x + 124), .ref (x + 125)]))) (g3 : hp (x + 3) = some (.inr (2, [.ref (x + 4), .ref (x + 7), .ref (x + 10), .ref (x + 13), .int sd, .int mn, .int th]))) (g4 : hp (x + 4) = some (.inr (0, [.ref (x + 5), .ref (x + 6), .int dc]))) (g5 : hp (x + 5) = some (.inl (kC E 0, 6, .inl fc))) (g10 : hp (x + 10) = some (.inr (4, [.ref (x + 11), .ref (x + 12), .int tc]))) (g12 : hp (x + 12) = some (.inl (kC E 0, 432, .inl fr)))  (h : f_X10_suspiciousPairs N mn th fc fr = some out) : AM E l yX10_suspiciousPairs cX10_suspiciousPairs 1 (Option.some Jvm.ClassFile.FieldType.int) ⟨5, 0, 0, 116⟩ [.ref x] hp al (kRet out hp al) := by
  refine A_of (by decide +kernel) (Nat.le_of_ble_eq_true rfl) ?_
  intro p e s m args below meth c X hr hnm
  have X : CX E p l s m args meth c "DiceAudit" cX10_suspiciousPairs 1 := X
  refine A_L (L' := [(0, .ref x)]) rfl ?_
  unfold f_X10_suspiciousPairs at h
  refine A_aload_n X dX10_suspiciousPairs_0 0 rfl ?_
  refine A_get X dX10_suspiciousPairs_1 kcl_X10 3 (by decide) kw_654 g0 rfl ?_
  obtain ⟨t1, hct1, h⟩ := bind_o h
  refine A_cp (k' := 0) (n' := 0) (A_runV (rest := []) X dX10_suspiciousPairs_4 (c_X2_countSuspicious g3 g4 g5 g10 g12  hct1) kY_X2_countSuspicious kw_718 g3 rfl rfl ⟨(Nat.le_of_ble_eq_true rfl), (Nat.le_of_ble_eq_true rfl), (Nat.le_of_ble_eq_true rfl), (Nat.le_of_ble_eq_true rfl)⟩ rfl (Nat.le_of_ble_eq_true rfl)) rfl rfl ?_
  cases h
  exact A_iret X dX10_suspiciousPairs_7 hr ⟨rfl, rfl, rfl⟩ (Nat.le_of_ble_eq_true rfl) (Nat.le_of_ble_eq_true rfl)
def f_X10_worstPair (N : Nat) (fc : Nat → Int32) (tc : Int32) (fr : Nat → Int32)  : Option (Int32) :=
  if tc = 0 then
    some (-1)
  else
    (f_X2_pairWithGreatestScore N fc fr).bind fun t1 =>
    (f_X10_playerOf t1).bind fun t2 =>
    (f_X10_dieOf t1).bind fun t3 =>
    some ((10 * t2) + t3)
set_option maxHeartbeats 4000000 in
set_option maxRecDepth 100000 in
theorem c_X10_worstPair {E : KE} {l : Launch} {hp : Hp} {al : Option Nat} {N : Nat} {x : Nat} {sd : Int32} {mn : Int32} {th : Int32} {dc : Int32} {fc : Nat → Int32} {tc : Int32} {fr : Nat → Int32}  {out : Int32} (g0 : hp x = some (.inr (10, [.ref (x + 126), .ref (x + 128), .ref (x + 1), .ref (x + 3), .ref (x + 16), .ref (x + 18), .ref (x + 124), .ref (x + 125)]))) (g3 : hp (x + 3) = some (.inr (2, [.ref (x + 4), .ref (x + 7), .ref (x + 10), .ref (x + 13), .int sd, .int mn, .int th]))) (g4 : hp (x + 4) = some (.inr (0, [.ref (x + 5), .ref (x + 6), .int dc]))) (g5 : hp (x + 5) = some (.inl (kC E 0, 6, .inl fc))) (g10 : hp (x + 10) = some (.inr (4, [.ref (x + 11), .ref (x + 12), .int tc]))) (g12 : hp (x + 12) = some (.inl (kC E 0, 432, .inl fr)))  (h : f_X10_worstPair N fc tc fr = some out) : AM E l yX10_worstPair cX10_worstPair 2 (Option.some Jvm.ClassFile.FieldType.int) ⟨4, 0, 0, 97⟩ [.ref x] hp al (kRet out hp al) := by
  refine A_of (by decide +kernel) (Nat.le_of_ble_eq_true rfl) ?_
  intro p e s m args below meth c X hr hnm
  have X : CX E p l s m args meth c "DiceAudit" cX10_worstPair 2 := X
  refine A_L (L' := [(0, .ref x)]) rfl ?_
  unfold f_X10_worstPair at h
  refine A_aload_n X dX10_worstPair_0 0 rfl ?_
  refine A_get X dX10_worstPair_1 kcl_X10 3 (by decide) kw_654 g0 rfl ?_
  refine A_get X dX10_worstPair_4 kcl_X2 2 (by decide) kw_148 g3 rfl ?_
  refine A_get X dX10_worstPair_7 kcl_X4 2 (by decide) kw_107 g10 rfl ?_
  refine A_if_ne (tgt := 15) X dX10_worstPair_10 h (by decide) (fun hc h => ?_) (fun hc h => ?_)
  · refine A_aload_n X dX10_worstPair_15 0 rfl ?_
    refine A_get X dX10_worstPair_16 kcl_X10 3 (by decide) kw_654 g0 rfl ?_
    obtain ⟨t1, hct1, h⟩ := bind_o h
    refine A_cp (k' := 0) (n' := 0) (A_runV (rest := []) X dX10_worstPair_19 (c_X2_pairWithGreatestScore g3 g4 g5 g10 g12  hct1) kY_X2_pairWithGreatestScore kw_730 g3 rfl rfl ⟨(Nat.le_of_ble_eq_true rfl), (Nat.le_of_ble_eq_true rfl), (Nat.le_of_ble_eq_true rfl), (Nat.le_of_ble_eq_true rfl)⟩ rfl (Nat.le_of_ble_eq_true rfl)) rfl rfl ?_
    refine A_istore_n (L' := [(1, .int t1), (0, .ref x)]) X dX10_worstPair_22 rfl (by decide) rfl ?_
    refine A_bipush (v := 10) X dX10_worstPair_23 (by decide) ?_
    refine A_iload_n X dX10_worstPair_25 0 rfl ?_
    obtain ⟨t2, hct2, h⟩ := bind_o h
    refine A_cp (k' := 0) (n' := 0) (A_runS (rest := [.int 10]) X dX10_worstPair_26 (c_X10_playerOf   hct2) kY_X10_playerOf kw_734 ⟨(Nat.le_of_ble_eq_true rfl), (Nat.le_of_ble_eq_true rfl), (Nat.le_of_ble_eq_true rfl), (Nat.le_of_ble_eq_true rfl)⟩ rfl (Nat.le_of_ble_eq_true rfl)) rfl rfl ?_
    refine A_imul X dX10_worstPair_29 ?_
    refine A_iload_n X dX10_worstPair_30 0 rfl ?_
    obtain ⟨t3, hct3, h⟩ := bind_o h
    refine A_cp (k' := 0) (n' := 0) (A_runS (rest := [.int (10 * t2)]) X dX10_worstPair_31 (c_X10_dieOf   hct3) kY_X10_dieOf kw_735 ⟨(Nat.le_of_ble_eq_true rfl), (Nat.le_of_ble_eq_true rfl), (Nat.le_of_ble_eq_true rfl), (Nat.le_of_ble_eq_true rfl)⟩ rfl (Nat.le_of_ble_eq_true rfl)) rfl rfl ?_
    refine A_iadd X dX10_worstPair_34 ?_
    cases h
    exact A_iret X dX10_worstPair_35 hr ⟨rfl, rfl, rfl⟩ (Nat.le_of_ble_eq_true rfl) (Nat.le_of_ble_eq_true rfl)
  · refine A_iconst (v := (-1)) X dX10_worstPair_13 (by decide) ?_
    cases h
    exact A_iret X dX10_worstPair_14 hr ⟨rfl, rfl, rfl⟩ (Nat.le_of_ble_eq_true rfl) (Nat.le_of_ble_eq_true rfl)
def f_X10_offenceCount (oc : Int32)  : Option (Int32) :=
  some oc
set_option maxHeartbeats 4000000 in
set_option maxRecDepth 100000 in
theorem c_X10_offenceCount {E : KE} {l : Launch} {hp : Hp} {al : Option Nat} {x : Nat} {sd : Int32} {mn : Int32} {th : Int32} {oc : Int32}  {out : Int32} (g0 : hp x = some (.inr (10, [.ref (x + 126), .ref (x + 128), .ref (x + 1), .ref (x + 3), .ref (x + 16), .ref (x + 18), .ref (x + 124), .ref (x + 125)]))) (g3 : hp (x + 3) = some (.inr (2, [.ref (x + 4), .ref (x + 7), .ref (x + 10), .ref (x + 13), .int sd, .int mn, .int th]))) (g13 : hp (x + 13) = some (.inr (6, [.ref (x + 14), .ref (x + 15), .int oc])))  (h : f_X10_offenceCount oc = some out) : AM E l yX10_offenceCount cX10_offenceCount 1 (Option.some Jvm.ClassFile.FieldType.int) ⟨0, 0, 0, 0⟩ [.ref x] hp al (kRet out hp al) := by
  refine A_of (by decide +kernel) (Nat.le_of_ble_eq_true rfl) ?_
  intro p e s m args below meth c X hr hnm
  have X : CX E p l s m args meth c "DiceAudit" cX10_offenceCount 1 := X
  refine A_L (L' := [(0, .ref x)]) rfl ?_
  unfold f_X10_offenceCount at h
  refine A_aload_n X dX10_offenceCount_0 0 rfl ?_
  refine A_get X dX10_offenceCount_1 kcl_X10 3 (by decide) kw_654 g0 rfl ?_
  refine A_get X dX10_offenceCount_4 kcl_X2 3 (by decide) kw_152 g3 rfl ?_
  refine A_get X dX10_offenceCount_7 kcl_X6 2 (by decide) kw_131 g13 rfl ?_
  cases h
  exact A_iret X dX10_offenceCount_10 hr ⟨rfl, rfl, rfl⟩ (Nat.le_of_ble_eq_true rfl) (Nat.le_of_ble_eq_true rfl)
abbrev P_X10_requireOffence (E : KE) (x : Nat)  (hp : Hp) (al : Option Nat) (out : String ⊕ (Unit)) : Option Value → Hp → Option Nat → Prop := fun v0 hp' al' => ∃ u, out = .inr u ∧ v0 = none ∧ hp = hp' ∧ al = al'
def f_X10_requireOffence (oc : Int32) (a0 : Int32) : Option (String ⊕ (Unit)) :=
  sbd (f_X10_requireIndex a0 oc) fun t1 =>
  some (.inr ())
set_option maxHeartbeats 4000000 in
set_option maxRecDepth 100000 in
theorem c_X10_requireOffence {E : KE} {l : Launch} {hp : Hp} {al : Option Nat} {x : Nat} {sd : Int32} {mn : Int32} {th : Int32} {oc : Int32} {a0 : Int32} {out : String ⊕ (Unit)} (g0 : hp x = some (.inr (10, [.ref (x + 126), .ref (x + 128), .ref (x + 1), .ref (x + 3), .ref (x + 16), .ref (x + 18), .ref (x + 124), .ref (x + 125)]))) (g3 : hp (x + 3) = some (.inr (2, [.ref (x + 4), .ref (x + 7), .ref (x + 10), .ref (x + 13), .int sd, .int mn, .int th]))) (g13 : hp (x + 13) = some (.inr (6, [.ref (x + 14), .ref (x + 15), .int oc])))  (h : f_X10_requireOffence oc a0 = some out) : AX E l yX10_requireOffence cX10_requireOffence 2 (Option.none : Option Jvm.ClassFile.FieldType) ⟨7, 1, 6, 103⟩ [.ref x, .int a0] hp al (P_X10_requireOffence E x hp al out) (kThr out hp) := by
  refine A_ofX (by decide +kernel) (Nat.le_of_ble_eq_true rfl) ?_
  intro p e s m args below meth c X hr htb
  have X : CX E p l s m args meth c "DiceAudit" cX10_requireOffence 2 := X
  refine A_L (L' := [(0, .ref x), (1, .int a0)]) rfl ?_
  unfold f_X10_requireOffence at h
  refine A_iload_n X dX10_requireOffence_0 1 rfl ?_
  refine A_aload_n X dX10_requireOffence_1 0 rfl ?_
  refine A_get X dX10_requireOffence_2 kcl_X10 3 (by decide) kw_654 g0 rfl ?_
  refine A_get X dX10_requireOffence_5 kcl_X2 3 (by decide) kw_152 g3 rfl ?_
  refine A_get X dX10_requireOffence_8 kcl_X6 2 (by decide) kw_131 g13 rfl ?_
  rcases sbd_o h with ⟨c9, hc9, rfl⟩ | ⟨t1, hct1, h⟩
  · exact A_cX (k' := 1) (n' := 6) rfl rfl (A_runSX (rest := []) X dX10_requireOffence_11 (c_X10_requireIndex   hc9) kY_X10_requireIndex kw_962 ⟨(Nat.le_of_ble_eq_true rfl), (Nat.le_of_ble_eq_true rfl), (Nat.le_of_ble_eq_true rfl), (Nat.le_of_ble_eq_true rfl)⟩ rfl (Nat.le_of_ble_eq_true rfl)) (fun C hp1 hP => by obtain ⟨hC, rfl⟩ := hP; cases hC; exact A_out X htb ⟨rfl, rfl⟩ (Nat.le_of_ble_eq_true rfl) (Nat.le_of_ble_eq_true rfl)) (fun v hp1 al1 hP => by obtain ⟨u, hu, _⟩ := hP; cases hu)
  refine A_cX (k' := 1) (n' := 6) rfl rfl (A_runSX (rest := []) X dX10_requireOffence_11 (c_X10_requireIndex   hct1) kY_X10_requireIndex kw_962 ⟨(Nat.le_of_ble_eq_true rfl), (Nat.le_of_ble_eq_true rfl), (Nat.le_of_ble_eq_true rfl), (Nat.le_of_ble_eq_true rfl)⟩ rfl (Nat.le_of_ble_eq_true rfl)) (fun C hp1 hP => by obtain ⟨hC, _⟩ := hP; cases hC) (fun v9 hp1 al9 hP => ?_)
  obtain ⟨u9, hu9, rfl, rfl, rfl⟩ := hP
  cases hu9
  refine A_st (st' := []) rfl ?_
  cases h
  exact A_vretX X dX10_requireOffence_14 hr ⟨_, rfl, rfl, rfl, rfl⟩ (Nat.le_of_ble_eq_true rfl) (Nat.le_of_ble_eq_true rfl)
abbrev P_X10_offencePlayer (E : KE) (x : Nat)  (hp : Hp) (al : Option Nat) (out : String ⊕ (Int32)) : Option Value → Hp → Option Nat → Prop := fun v0 hp' al' => ∃ u, out = .inr u ∧ v0 = some (.int u) ∧ hp = hp' ∧ al = al'
def f_X10_offencePlayer (oc : Int32) (op : Nat → Int32) (a0 : Int32) : Option (String ⊕ (Int32)) :=
  sbd (f_X10_requireOffence oc a0) fun t1 =>
  (f_X10_at 36 op a0).bind fun t2 =>
  (f_X10_playerOf t2).bind fun t3 =>
  some (.inr t3)
set_option maxHeartbeats 4000000 in
set_option maxRecDepth 100000 in
theorem c_X10_offencePlayer {E : KE} {l : Launch} {hp : Hp} {al : Option Nat} {x : Nat} {sd : Int32} {mn : Int32} {th : Int32} {oc : Int32} {op : Nat → Int32} {a0 : Int32} {out : String ⊕ (Int32)} (g0 : hp x = some (.inr (10, [.ref (x + 126), .ref (x + 128), .ref (x + 1), .ref (x + 3), .ref (x + 16), .ref (x + 18), .ref (x + 124), .ref (x + 125)]))) (g3 : hp (x + 3) = some (.inr (2, [.ref (x + 4), .ref (x + 7), .ref (x + 10), .ref (x + 13), .int sd, .int mn, .int th]))) (g13 : hp (x + 13) = some (.inr (6, [.ref (x + 14), .ref (x + 15), .int oc]))) (g14 : hp (x + 14) = some (.inl (kC E 0, 36, .inl op)))  (h : f_X10_offencePlayer oc op a0 = some out) : AX E l yX10_offencePlayer cX10_offencePlayer 2 (Option.some Jvm.ClassFile.FieldType.int) ⟨8, 1, 6, 124⟩ [.ref x, .int a0] hp al (P_X10_offencePlayer E x hp al out) (kThr out hp) := by
  refine A_ofX (by decide +kernel) (Nat.le_of_ble_eq_true rfl) ?_
  intro p e s m args below meth c X hr htb
  have X : CX E p l s m args meth c "DiceAudit" cX10_offencePlayer 2 := X
  refine A_L (L' := [(0, .ref x), (1, .int a0)]) rfl ?_
  unfold f_X10_offencePlayer at h
  refine A_aload_n X dX10_offencePlayer_0 0 rfl ?_
  refine A_iload_n X dX10_offencePlayer_1 1 rfl ?_
  rcases sbd_o h with ⟨c9, hc9, rfl⟩ | ⟨t1, hct1, h⟩
  · exact A_cX (k' := 1) (n' := 6) rfl rfl (A_runVX (rest := []) X dX10_offencePlayer_2 (c_X10_requireOffence g0 g3 g13  hc9) kY_X10_requireOffence kw_1215 g0 rfl rfl ⟨(Nat.le_of_ble_eq_true rfl), (Nat.le_of_ble_eq_true rfl), (Nat.le_of_ble_eq_true rfl), (Nat.le_of_ble_eq_true rfl)⟩ rfl (Nat.le_of_ble_eq_true rfl)) (fun C hp1 hP => by obtain ⟨hC, rfl⟩ := hP; cases hC; exact A_out X htb ⟨rfl, rfl⟩ (Nat.le_of_ble_eq_true rfl) (Nat.le_of_ble_eq_true rfl)) (fun v hp1 al1 hP => by obtain ⟨u, hu, _⟩ := hP; cases hu)
  refine A_cX (k' := 1) (n' := 6) rfl rfl (A_runVX (rest := []) X dX10_offencePlayer_2 (c_X10_requireOffence g0 g3 g13  hct1) kY_X10_requireOffence kw_1215 g0 rfl rfl ⟨(Nat.le_of_ble_eq_true rfl), (Nat.le_of_ble_eq_true rfl), (Nat.le_of_ble_eq_true rfl), (Nat.le_of_ble_eq_true rfl)⟩ rfl (Nat.le_of_ble_eq_true rfl)) (fun C hp1 hP => by obtain ⟨hC, _⟩ := hP; cases hC) (fun v9 hp1 al9 hP => ?_)
  obtain ⟨u9, hu9, rfl, rfl, rfl⟩ := hP
  cases hu9
  refine A_st (st' := []) rfl ?_
  refine A_aload_n X dX10_offencePlayer_5 0 rfl ?_
  refine A_get X dX10_offencePlayer_6 kcl_X10 3 (by decide) kw_654 g0 rfl ?_
  refine A_get X dX10_offencePlayer_9 kcl_X2 3 (by decide) kw_152 g3 rfl ?_
  refine A_get X dX10_offencePlayer_12 kcl_X6 0 (by decide) kw_124 g13 rfl ?_
  refine A_iload_n X dX10_offencePlayer_15 1 rfl ?_
  obtain ⟨t2, hct2, h⟩ := bind_o h
  refine A_cp (k' := 1) (n' := 6) (A_runS (rest := []) X dX10_offencePlayer_16 (c_X10_at g14  hct2) kY_X10_at kw_536 ⟨(Nat.le_of_ble_eq_true rfl), (Nat.le_of_ble_eq_true rfl), (Nat.le_of_ble_eq_true rfl), (Nat.le_of_ble_eq_true rfl)⟩ rfl (Nat.le_of_ble_eq_true rfl)) rfl rfl ?_
  obtain ⟨t3, hct3, h⟩ := bind_o h
  refine A_cp (k' := 1) (n' := 6) (A_runS (rest := []) X dX10_offencePlayer_19 (c_X10_playerOf   hct3) kY_X10_playerOf kw_734 ⟨(Nat.le_of_ble_eq_true rfl), (Nat.le_of_ble_eq_true rfl), (Nat.le_of_ble_eq_true rfl), (Nat.le_of_ble_eq_true rfl)⟩ rfl (Nat.le_of_ble_eq_true rfl)) rfl rfl ?_
  cases h
  exact A_iretX X dX10_offencePlayer_22 hr ⟨_, rfl, rfl, rfl, rfl⟩ (Nat.le_of_ble_eq_true rfl) (Nat.le_of_ble_eq_true rfl)
abbrev P_X10_offenceDie (E : KE) (x : Nat)  (hp : Hp) (al : Option Nat) (out : String ⊕ (Int32)) : Option Value → Hp → Option Nat → Prop := fun v0 hp' al' => ∃ u, out = .inr u ∧ v0 = some (.int u) ∧ hp = hp' ∧ al = al'
def f_X10_offenceDie (oc : Int32) (op : Nat → Int32) (a0 : Int32) : Option (String ⊕ (Int32)) :=
  sbd (f_X10_requireOffence oc a0) fun t1 =>
  (f_X10_at 36 op a0).bind fun t2 =>
  (f_X10_dieOf t2).bind fun t3 =>
  some (.inr t3)
set_option maxHeartbeats 4000000 in
set_option maxRecDepth 100000 in
theorem c_X10_offenceDie {E : KE} {l : Launch} {hp : Hp} {al : Option Nat} {x : Nat} {sd : Int32} {mn : Int32} {th : Int32} {oc : Int32} {op : Nat → Int32} {a0 : Int32} {out : String ⊕ (Int32)} (g0 : hp x = some (.inr (10, [.ref (x + 126), .ref (x + 128), .ref (x + 1), .ref (x + 3), .ref (x + 16), .ref (x + 18), .ref (x + 124), .ref (x + 125)]))) (g3 : hp (x + 3) = some (.inr (2, [.ref (x + 4), .ref (x + 7), .ref (x + 10), .ref (x + 13), .int sd, .int mn, .int th]))) (g13 : hp (x + 13) = some (.inr (6, [.ref (x + 14), .ref (x + 15), .int oc]))) (g14 : hp (x + 14) = some (.inl (kC E 0, 36, .inl op)))  (h : f_X10_offenceDie oc op a0 = some out) : AX E l yX10_offenceDie cX10_offenceDie 2 (Option.some Jvm.ClassFile.FieldType.int) ⟨8, 1, 6, 124⟩ [.ref x, .int a0] hp al (P_X10_offenceDie E x hp al out) (kThr out hp) := by
  refine A_ofX (by decide +kernel) (Nat.le_of_ble_eq_true rfl) ?_
  intro p e s m args below meth c X hr htb
  have X : CX E p l s m args meth c "DiceAudit" cX10_offenceDie 2 := X
  refine A_L (L' := [(0, .ref x), (1, .int a0)]) rfl ?_
  unfold f_X10_offenceDie at h
  refine A_aload_n X dX10_offenceDie_0 0 rfl ?_
  refine A_iload_n X dX10_offenceDie_1 1 rfl ?_
  rcases sbd_o h with ⟨c9, hc9, rfl⟩ | ⟨t1, hct1, h⟩
  · exact A_cX (k' := 1) (n' := 6) rfl rfl (A_runVX (rest := []) X dX10_offenceDie_2 (c_X10_requireOffence g0 g3 g13  hc9) kY_X10_requireOffence kw_1215 g0 rfl rfl ⟨(Nat.le_of_ble_eq_true rfl), (Nat.le_of_ble_eq_true rfl), (Nat.le_of_ble_eq_true rfl), (Nat.le_of_ble_eq_true rfl)⟩ rfl (Nat.le_of_ble_eq_true rfl)) (fun C hp1 hP => by obtain ⟨hC, rfl⟩ := hP; cases hC; exact A_out X htb ⟨rfl, rfl⟩ (Nat.le_of_ble_eq_true rfl) (Nat.le_of_ble_eq_true rfl)) (fun v hp1 al1 hP => by obtain ⟨u, hu, _⟩ := hP; cases hu)
  refine A_cX (k' := 1) (n' := 6) rfl rfl (A_runVX (rest := []) X dX10_offenceDie_2 (c_X10_requireOffence g0 g3 g13  hct1) kY_X10_requireOffence kw_1215 g0 rfl rfl ⟨(Nat.le_of_ble_eq_true rfl), (Nat.le_of_ble_eq_true rfl), (Nat.le_of_ble_eq_true rfl), (Nat.le_of_ble_eq_true rfl)⟩ rfl (Nat.le_of_ble_eq_true rfl)) (fun C hp1 hP => by obtain ⟨hC, _⟩ := hP; cases hC) (fun v9 hp1 al9 hP => ?_)
  obtain ⟨u9, hu9, rfl, rfl, rfl⟩ := hP
  cases hu9
  refine A_st (st' := []) rfl ?_
  refine A_aload_n X dX10_offenceDie_5 0 rfl ?_
  refine A_get X dX10_offenceDie_6 kcl_X10 3 (by decide) kw_654 g0 rfl ?_
  refine A_get X dX10_offenceDie_9 kcl_X2 3 (by decide) kw_152 g3 rfl ?_
  refine A_get X dX10_offenceDie_12 kcl_X6 0 (by decide) kw_124 g13 rfl ?_
  refine A_iload_n X dX10_offenceDie_15 1 rfl ?_
  obtain ⟨t2, hct2, h⟩ := bind_o h
  refine A_cp (k' := 1) (n' := 6) (A_runS (rest := []) X dX10_offenceDie_16 (c_X10_at g14  hct2) kY_X10_at kw_536 ⟨(Nat.le_of_ble_eq_true rfl), (Nat.le_of_ble_eq_true rfl), (Nat.le_of_ble_eq_true rfl), (Nat.le_of_ble_eq_true rfl)⟩ rfl (Nat.le_of_ble_eq_true rfl)) rfl rfl ?_
  obtain ⟨t3, hct3, h⟩ := bind_o h
  refine A_cp (k' := 1) (n' := 6) (A_runS (rest := []) X dX10_offenceDie_19 (c_X10_dieOf   hct3) kY_X10_dieOf kw_735 ⟨(Nat.le_of_ble_eq_true rfl), (Nat.le_of_ble_eq_true rfl), (Nat.le_of_ble_eq_true rfl), (Nat.le_of_ble_eq_true rfl)⟩ rfl (Nat.le_of_ble_eq_true rfl)) rfl rfl ?_
  cases h
  exact A_iretX X dX10_offenceDie_22 hr ⟨_, rfl, rfl, rfl, rfl⟩ (Nat.le_of_ble_eq_true rfl) (Nat.le_of_ble_eq_true rfl)
abbrev P_X10_offenceScore (E : KE) (x : Nat)  (hp : Hp) (al : Option Nat) (out : String ⊕ (Int32)) : Option Value → Hp → Option Nat → Prop := fun v0 hp' al' => ∃ u, out = .inr u ∧ v0 = some (.int u) ∧ hp = hp' ∧ al = al'
def f_X10_offenceScore (oc : Int32) (os : Nat → Int32) (a0 : Int32) : Option (String ⊕ (Int32)) :=
  sbd (f_X10_requireOffence oc a0) fun t1 =>
  (f_X10_at 36 os a0).bind fun t2 =>
  some (.inr t2)
set_option maxHeartbeats 4000000 in
set_option maxRecDepth 100000 in
theorem c_X10_offenceScore {E : KE} {l : Launch} {hp : Hp} {al : Option Nat} {x : Nat} {sd : Int32} {mn : Int32} {th : Int32} {oc : Int32} {os : Nat → Int32} {a0 : Int32} {out : String ⊕ (Int32)} (g0 : hp x = some (.inr (10, [.ref (x + 126), .ref (x + 128), .ref (x + 1), .ref (x + 3), .ref (x + 16), .ref (x + 18), .ref (x + 124), .ref (x + 125)]))) (g3 : hp (x + 3) = some (.inr (2, [.ref (x + 4), .ref (x + 7), .ref (x + 10), .ref (x + 13), .int sd, .int mn, .int th]))) (g13 : hp (x + 13) = some (.inr (6, [.ref (x + 14), .ref (x + 15), .int oc]))) (g15 : hp (x + 15) = some (.inl (kC E 0, 36, .inl os)))  (h : f_X10_offenceScore oc os a0 = some out) : AX E l yX10_offenceScore cX10_offenceScore 2 (Option.some Jvm.ClassFile.FieldType.int) ⟨8, 1, 6, 124⟩ [.ref x, .int a0] hp al (P_X10_offenceScore E x hp al out) (kThr out hp) := by
  refine A_ofX (by decide +kernel) (Nat.le_of_ble_eq_true rfl) ?_
  intro p e s m args below meth c X hr htb
  have X : CX E p l s m args meth c "DiceAudit" cX10_offenceScore 2 := X
  refine A_L (L' := [(0, .ref x), (1, .int a0)]) rfl ?_
  unfold f_X10_offenceScore at h
  refine A_aload_n X dX10_offenceScore_0 0 rfl ?_
  refine A_iload_n X dX10_offenceScore_1 1 rfl ?_
  rcases sbd_o h with ⟨c9, hc9, rfl⟩ | ⟨t1, hct1, h⟩
  · exact A_cX (k' := 1) (n' := 6) rfl rfl (A_runVX (rest := []) X dX10_offenceScore_2 (c_X10_requireOffence g0 g3 g13  hc9) kY_X10_requireOffence kw_1215 g0 rfl rfl ⟨(Nat.le_of_ble_eq_true rfl), (Nat.le_of_ble_eq_true rfl), (Nat.le_of_ble_eq_true rfl), (Nat.le_of_ble_eq_true rfl)⟩ rfl (Nat.le_of_ble_eq_true rfl)) (fun C hp1 hP => by obtain ⟨hC, rfl⟩ := hP; cases hC; exact A_out X htb ⟨rfl, rfl⟩ (Nat.le_of_ble_eq_true rfl) (Nat.le_of_ble_eq_true rfl)) (fun v hp1 al1 hP => by obtain ⟨u, hu, _⟩ := hP; cases hu)
  refine A_cX (k' := 1) (n' := 6) rfl rfl (A_runVX (rest := []) X dX10_offenceScore_2 (c_X10_requireOffence g0 g3 g13  hct1) kY_X10_requireOffence kw_1215 g0 rfl rfl ⟨(Nat.le_of_ble_eq_true rfl), (Nat.le_of_ble_eq_true rfl), (Nat.le_of_ble_eq_true rfl), (Nat.le_of_ble_eq_true rfl)⟩ rfl (Nat.le_of_ble_eq_true rfl)) (fun C hp1 hP => by obtain ⟨hC, _⟩ := hP; cases hC) (fun v9 hp1 al9 hP => ?_)
  obtain ⟨u9, hu9, rfl, rfl, rfl⟩ := hP
  cases hu9
  refine A_st (st' := []) rfl ?_
  refine A_aload_n X dX10_offenceScore_5 0 rfl ?_
  refine A_get X dX10_offenceScore_6 kcl_X10 3 (by decide) kw_654 g0 rfl ?_
  refine A_get X dX10_offenceScore_9 kcl_X2 3 (by decide) kw_152 g3 rfl ?_
  refine A_get X dX10_offenceScore_12 kcl_X6 1 (by decide) kw_127 g13 rfl ?_
  refine A_iload_n X dX10_offenceScore_15 1 rfl ?_
  obtain ⟨t2, hct2, h⟩ := bind_o h
  refine A_cp (k' := 1) (n' := 6) (A_runS (rest := []) X dX10_offenceScore_16 (c_X10_at g15  hct2) kY_X10_at kw_536 ⟨(Nat.le_of_ble_eq_true rfl), (Nat.le_of_ble_eq_true rfl), (Nat.le_of_ble_eq_true rfl), (Nat.le_of_ble_eq_true rfl)⟩ rfl (Nat.le_of_ble_eq_true rfl)) rfl rfl ?_
  cases h
  exact A_iretX X dX10_offenceScore_19 hr ⟨_, rfl, rfl, rfl, rfl⟩ (Nat.le_of_ble_eq_true rfl) (Nat.le_of_ble_eq_true rfl)
abbrev P_X10_offencesOf (E : KE) (x : Nat)  (hp : Hp) (al : Option Nat) (out : String ⊕ (Int32)) : Option Value → Hp → Option Nat → Prop := fun v0 hp' al' => ∃ u, out = .inr u ∧ v0 = some (.int u) ∧ hp = hp' ∧ al = al'
def f_X10_offencesOf (N : Nat) (pc : Int32) (oc : Int32) (op : Nat → Int32) (a0 : Int32) : Option (String ⊕ (Int32)) :=
  sbd (f_X10_requirePlayer pc a0) fun t1 =>
  (f_X6_countOf N oc op a0).bind fun t2 =>
  some (.inr t2)
set_option maxHeartbeats 4000000 in
set_option maxRecDepth 100000 in
theorem c_X10_offencesOf {E : KE} {l : Launch} {hp : Hp} {al : Option Nat} {N : Nat} {x : Nat} {sd : Int32} {mn : Int32} {th : Int32} {pc : Int32} {oc : Int32} {op : Nat → Int32} {a0 : Int32} {out : String ⊕ (Int32)} (g0 : hp x = some (.inr (10, [.ref (x + 126), .ref (x + 128), .ref (x + 1), .ref (x + 3), .ref (x + 16), .ref (x + 18), .ref (x + 124), .ref (x + 125)]))) (g3 : hp (x + 3) = some (.inr (2, [.ref (x + 4), .ref (x + 7), .ref (x + 10), .ref (x + 13), .int sd, .int mn, .int th]))) (g7 : hp (x + 7) = some (.inr (7, [.ref (x + 8), .ref (x + 9), .int pc]))) (g13 : hp (x + 13) = some (.inr (6, [.ref (x + 14), .ref (x + 15), .int oc]))) (g14 : hp (x + 14) = some (.inl (kC E 0, 36, .inl op)))  (h : f_X10_offencesOf N pc oc op a0 = some out) : AX E l yX10_offencesOf cX10_offencesOf 2 (Option.some Jvm.ClassFile.FieldType.int) ⟨8, 1, 6, 124⟩ [.ref x, .int a0] hp al (P_X10_offencesOf E x hp al out) (kThr out hp) := by
  refine A_ofX (by decide +kernel) (Nat.le_of_ble_eq_true rfl) ?_
  intro p e s m args below meth c X hr htb
  have X : CX E p l s m args meth c "DiceAudit" cX10_offencesOf 2 := X
  refine A_L (L' := [(0, .ref x), (1, .int a0)]) rfl ?_
  unfold f_X10_offencesOf at h
  refine A_aload_n X dX10_offencesOf_0 0 rfl ?_
  refine A_iload_n X dX10_offencesOf_1 1 rfl ?_
  rcases sbd_o h with ⟨c9, hc9, rfl⟩ | ⟨t1, hct1, h⟩
  · exact A_cX (k' := 1) (n' := 6) rfl rfl (A_runVX (rest := []) X dX10_offencesOf_2 (c_X10_requirePlayer g0 g3 g7  hc9) kY_X10_requirePlayer kw_1029 g0 rfl rfl ⟨(Nat.le_of_ble_eq_true rfl), (Nat.le_of_ble_eq_true rfl), (Nat.le_of_ble_eq_true rfl), (Nat.le_of_ble_eq_true rfl)⟩ rfl (Nat.le_of_ble_eq_true rfl)) (fun C hp1 hP => by obtain ⟨hC, rfl⟩ := hP; cases hC; exact A_out X htb ⟨rfl, rfl⟩ (Nat.le_of_ble_eq_true rfl) (Nat.le_of_ble_eq_true rfl)) (fun v hp1 al1 hP => by obtain ⟨u, hu, _⟩ := hP; cases hu)
  refine A_cX (k' := 1) (n' := 6) rfl rfl (A_runVX (rest := []) X dX10_offencesOf_2 (c_X10_requirePlayer g0 g3 g7  hct1) kY_X10_requirePlayer kw_1029 g0 rfl rfl ⟨(Nat.le_of_ble_eq_true rfl), (Nat.le_of_ble_eq_true rfl), (Nat.le_of_ble_eq_true rfl), (Nat.le_of_ble_eq_true rfl)⟩ rfl (Nat.le_of_ble_eq_true rfl)) (fun C hp1 hP => by obtain ⟨hC, _⟩ := hP; cases hC) (fun v9 hp1 al9 hP => ?_)
  obtain ⟨u9, hu9, rfl, rfl, rfl⟩ := hP
  cases hu9
  refine A_st (st' := []) rfl ?_
  refine A_aload_n X dX10_offencesOf_5 0 rfl ?_
  refine A_get X dX10_offencesOf_6 kcl_X10 3 (by decide) kw_654 g0 rfl ?_
  refine A_get X dX10_offencesOf_9 kcl_X2 3 (by decide) kw_152 g3 rfl ?_
  refine A_iload_n X dX10_offencesOf_12 1 rfl ?_
  obtain ⟨t2, hct2, h⟩ := bind_o h
  refine A_cp (k' := 1) (n' := 6) (A_runV (rest := []) X dX10_offencesOf_13 (c_X6_countOf g13 g14  hct2) kY_X6_countOf kw_827 g13 rfl rfl ⟨(Nat.le_of_ble_eq_true rfl), (Nat.le_of_ble_eq_true rfl), (Nat.le_of_ble_eq_true rfl), (Nat.le_of_ble_eq_true rfl)⟩ rfl (Nat.le_of_ble_eq_true rfl)) rfl rfl ?_
  cases h
  exact A_iretX X dX10_offencesOf_16 hr ⟨_, rfl, rfl, rfl, rfl⟩ (Nat.le_of_ble_eq_true rfl) (Nat.le_of_ble_eq_true rfl)
abbrev P_X10_nextFace (E : KE) (x : Nat)  (hp : Hp) (al : Option Nat) (out : String ⊕ (Int32)) : Option Value → Hp → Option Nat → Prop := fun v0 hp' al' => ∃ u, out = .inr u ∧ v0 = some (.int u) ∧ hp = hp' ∧ al = al'
def f_X10_nextFace (N : Nat) (sd : Int32) (dc : Int32) (fc : Nat → Int32) (dw : Nat → Int32) (a0 : Int32) : Option (String ⊕ (Int32)) :=
  sbd (f_X10_requireDie dc a0) fun t1 =>
  (f_X10_nextSeed sd).bind fun t2 =>
  (f_X0_faceShown N fc dw a0 t2).bind fun t3 =>
  some (.inr t3)
set_option maxHeartbeats 4000000 in
set_option maxRecDepth 100000 in
theorem c_X10_nextFace {E : KE} {l : Launch} {hp : Hp} {al : Option Nat} {N : Nat} {x : Nat} {sd : Int32} {mn : Int32} {th : Int32} {dc : Int32} {fc : Nat → Int32} {dw : Nat → Int32} {a0 : Int32} {out : String ⊕ (Int32)} (g0 : hp x = some (.inr (10, [.ref (x + 126), .ref (x + 128), .ref (x + 1), .ref (x + 3), .ref (x + 16), .ref (x + 18), .ref (x + 124), .ref (x + 125)]))) (g3 : hp (x + 3) = some (.inr (2, [.ref (x + 4), .ref (x + 7), .ref (x + 10), .ref (x + 13), .int sd, .int mn, .int th]))) (g4 : hp (x + 4) = some (.inr (0, [.ref (x + 5), .ref (x + 6), .int dc]))) (g5 : hp (x + 5) = some (.inl (kC E 0, 6, .inl fc))) (g6 : hp (x + 6) = some (.inl (kC E 0, 72, .inl dw)))  (h : f_X10_nextFace N sd dc fc dw a0 = some out) : AX E l yX10_nextFace cX10_nextFace 2 (Option.some Jvm.ClassFile.FieldType.int) ⟨8, 1, 6, 124⟩ [.ref x, .int a0] hp al (P_X10_nextFace E x hp al out) (kThr out hp) := by
  refine A_ofX (by decide +kernel) (Nat.le_of_ble_eq_true rfl) ?_
  intro p e s m args below meth c X hr htb
  have X : CX E p l s m args meth c "DiceAudit" cX10_nextFace 2 := X
  refine A_L (L' := [(0, .ref x), (1, .int a0)]) rfl ?_
  unfold f_X10_nextFace at h
  refine A_aload_n X dX10_nextFace_0 0 rfl ?_
  refine A_iload_n X dX10_nextFace_1 1 rfl ?_
  rcases sbd_o h with ⟨c9, hc9, rfl⟩ | ⟨t1, hct1, h⟩
  · exact A_cX (k' := 1) (n' := 6) rfl rfl (A_runVX (rest := []) X dX10_nextFace_2 (c_X10_requireDie g0 g3 g4  hc9) kY_X10_requireDie kw_958 g0 rfl rfl ⟨(Nat.le_of_ble_eq_true rfl), (Nat.le_of_ble_eq_true rfl), (Nat.le_of_ble_eq_true rfl), (Nat.le_of_ble_eq_true rfl)⟩ rfl (Nat.le_of_ble_eq_true rfl)) (fun C hp1 hP => by obtain ⟨hC, rfl⟩ := hP; cases hC; exact A_out X htb ⟨rfl, rfl⟩ (Nat.le_of_ble_eq_true rfl) (Nat.le_of_ble_eq_true rfl)) (fun v hp1 al1 hP => by obtain ⟨u, hu, _⟩ := hP; cases hu)
  refine A_cX (k' := 1) (n' := 6) rfl rfl (A_runVX (rest := []) X dX10_nextFace_2 (c_X10_requireDie g0 g3 g4  hct1) kY_X10_requireDie kw_958 g0 rfl rfl ⟨(Nat.le_of_ble_eq_true rfl), (Nat.le_of_ble_eq_true rfl), (Nat.le_of_ble_eq_true rfl), (Nat.le_of_ble_eq_true rfl)⟩ rfl (Nat.le_of_ble_eq_true rfl)) (fun C hp1 hP => by obtain ⟨hC, _⟩ := hP; cases hC) (fun v9 hp1 al9 hP => ?_)
  obtain ⟨u9, hu9, rfl, rfl, rfl⟩ := hP
  cases hu9
  refine A_st (st' := []) rfl ?_
  refine A_aload_n X dX10_nextFace_5 0 rfl ?_
  refine A_get X dX10_nextFace_6 kcl_X10 3 (by decide) kw_654 g0 rfl ?_
  refine A_get X dX10_nextFace_9 kcl_X2 0 (by decide) kw_142 g3 rfl ?_
  refine A_iload_n X dX10_nextFace_12 1 rfl ?_
  refine A_aload_n X dX10_nextFace_13 0 rfl ?_
  refine A_get X dX10_nextFace_14 kcl_X10 3 (by decide) kw_654 g0 rfl ?_
  refine A_get X dX10_nextFace_17 kcl_X2 4 (by decide) kw_155 g3 rfl ?_
  obtain ⟨t2, hct2, h⟩ := bind_o h
  refine A_cp (k' := 1) (n' := 6) (A_runS (rest := [.int a0, .ref (x + 4)]) X dX10_nextFace_20 (c_X10_nextSeed   hct2) kY_X10_nextSeed kw_1247 ⟨(Nat.le_of_ble_eq_true rfl), (Nat.le_of_ble_eq_true rfl), (Nat.le_of_ble_eq_true rfl), (Nat.le_of_ble_eq_true rfl)⟩ rfl (Nat.le_of_ble_eq_true rfl)) rfl rfl ?_
  obtain ⟨t3, hct3, h⟩ := bind_o h
  refine A_cp (k' := 1) (n' := 6) (A_runV (rest := []) X dX10_nextFace_23 (c_X0_faceShown g4 g5 g6  hct3) kY_X0_faceShown kw_1248 g4 rfl rfl ⟨(Nat.le_of_ble_eq_true rfl), (Nat.le_of_ble_eq_true rfl), (Nat.le_of_ble_eq_true rfl), (Nat.le_of_ble_eq_true rfl)⟩ rfl (Nat.le_of_ble_eq_true rfl)) rfl rfl ?_
  cases h
  exact A_iretX X dX10_nextFace_26 hr ⟨_, rfl, rfl, rfl, rfl⟩ (Nat.le_of_ble_eq_true rfl) (Nat.le_of_ble_eq_true rfl)
abbrev P_X10_faceAfter (E : KE) (x : Nat)  (hp : Hp) (al : Option Nat) (out : String ⊕ (Int32)) : Option Value → Hp → Option Nat → Prop := fun v0 hp' al' => ∃ u, out = .inr u ∧ v0 = some (.int u) ∧ hp = hp' ∧ al = al'
def f_X10_faceAfter_L24_F (N : Nat) (sd : Int32) (dc : Int32) (fc : Nat → Int32) (dw : Nat → Int32)  (r24 : Int32 → Int32 → Int32 → Int32 → Option (String ⊕ (Int32))) (l1 : Int32) (l2 : Int32) (l3 : Int32) (l4 : Int32) : Option (String ⊕ (Int32)) :=
  if l2 ≤ l4 then
    (f_X0_faceShown N fc dw l1 l3).bind fun t3 =>
    some (.inr t3)
  else
    (f_X10_nextSeed l3).bind fun t4 =>
    r24 l1 l2 t4 (l4 + 1)
def f_X10_faceAfter_L24 (N : Nat) (sd : Int32) (dc : Int32) (fc : Nat → Int32) (dw : Nat → Int32)  : Nat → Int32 → Int32 → Int32 → Int32 → Option (String ⊕ (Int32))
  | 0 => fun _ _ _ _ => none
  | j + 1 => f_X10_faceAfter_L24_F N sd dc fc dw (f_X10_faceAfter_L24 N sd dc fc dw j)
set_option maxHeartbeats 4000000 in
set_option maxRecDepth 100000 in
theorem c_X10_faceAfter_L24 {E : KE} {p : Program} {l : Launch} {e : Env} {s : State} {m : MethodId} {args : Array Value} {below : List Frame} {meth : Method} {c : Code} {al : Option Nat} {N : Nat} {x : Nat} {sd : Int32} {mn : Int32} {th : Int32} {dc : Int32} {fc : Nat → Int32} {dw : Nat → Int32} {hp0 : Hp} {out : String ⊕ (Int32)}  (X : CX E p l s m args meth c "DiceAudit" cX10_faceAfter 5) (hr : meth.sig.returnType = (Option.some Jvm.ClassFile.FieldType.int)) (htb : ∀ x ∈ c.exceptionTable.toList, False)  (g0 : hp0 x = some (.inr (10, [.ref (x + 126), .ref (x + 128), .ref (x + 1), .ref (x + 3), .ref (x + 16), .ref (x + 18), .ref (x + 124), .ref (x + 125)]))) (g3 : hp0 (x + 3) = some (.inr (2, [.ref (x + 4), .ref (x + 7), .ref (x + 10), .ref (x + 13), .int sd, .int mn, .int th]))) (g4 : hp0 (x + 4) = some (.inr (0, [.ref (x + 5), .ref (x + 6), .int dc]))) (g5 : hp0 (x + 5) = some (.inl (kC E 0, 6, .inl fc))) (g6 : hp0 (x + 6) = some (.inl (kC E 0, 72, .inl dw))) : ∀ (j : Nat), ∀ {l1 : Int32} {l2 : Int32} {l3 : Int32} {l4 : Int32}, f_X10_faceAfter_L24 N sd dc fc dw j l1 l2 l3 l4 = some out → AW E p l e ⟨8, 2, 12, 124⟩ s m args below meth c 5 (vx_MQ below (kQc E (P_X10_faceAfter E x hp0 al out)) (kXC E (kThr out hp0)) args s 2 12 (kA E)) hp0 al 2 12 24 [(0, .ref x), (1, .int l1), (2, .int l2), (3, .int l3), (4, .int l4)] [] := by
  intro j
  induction j with
  | zero =>
    intro l1 l2 l3 l4 h
    have h : (none : Option (String ⊕ (Int32))) = some out := h
    cases h
  | succ j i24 =>
    intro l1 l2 l3 l4 h
    have h : f_X10_faceAfter_L24_F N sd dc fc dw (f_X10_faceAfter_L24 N sd dc fc dw j) l1 l2 l3 l4 = some out := h
    unfold f_X10_faceAfter_L24_F at h
    refine A_iload X dX10_faceAfter_24 4 rfl ?_
    refine A_iload_n X dX10_faceAfter_26 2 rfl ?_
    refine A_icmp_ge (tgt := 41) X dX10_faceAfter_27 h (by decide) (fun hc h => ?_) (fun hc h => ?_)
    · refine A_aload_n X dX10_faceAfter_41 0 rfl ?_
      refine A_get X dX10_faceAfter_42 kcl_X10 3 (by decide) kw_654 g0 rfl ?_
      refine A_get X dX10_faceAfter_45 kcl_X2 0 (by decide) kw_142 g3 rfl ?_
      refine A_iload_n X dX10_faceAfter_48 1 rfl ?_
      refine A_iload_n X dX10_faceAfter_49 3 rfl ?_
      obtain ⟨t3, hct3, h⟩ := bind_o h
      refine A_cp (k' := 2) (n' := 12) (A_runV (rest := []) X dX10_faceAfter_50 (c_X0_faceShown g4 g5 g6  hct3) kY_X0_faceShown kw_1248 g4 rfl rfl ⟨(Nat.le_of_ble_eq_true rfl), (Nat.le_of_ble_eq_true rfl), (Nat.le_of_ble_eq_true rfl), (Nat.le_of_ble_eq_true rfl)⟩ rfl (Nat.le_of_ble_eq_true rfl)) rfl rfl ?_
      cases h
      exact A_iretX X dX10_faceAfter_53 hr ⟨_, rfl, rfl, rfl, rfl⟩ (Nat.le_of_ble_eq_true rfl) (Nat.le_of_ble_eq_true rfl)
    · refine A_iload_n X dX10_faceAfter_30 3 rfl ?_
      obtain ⟨t4, hct4, h⟩ := bind_o h
      refine A_cp (k' := 2) (n' := 12) (A_runS (rest := []) X dX10_faceAfter_31 (c_X10_nextSeed   hct4) kY_X10_nextSeed kw_1247 ⟨(Nat.le_of_ble_eq_true rfl), (Nat.le_of_ble_eq_true rfl), (Nat.le_of_ble_eq_true rfl), (Nat.le_of_ble_eq_true rfl)⟩ rfl (Nat.le_of_ble_eq_true rfl)) rfl rfl ?_
      refine A_istore_n (L' := [(3, .int t4), (0, .ref x), (1, .int l1), (2, .int l2), (4, .int l4)]) X dX10_faceAfter_34 rfl (by decide) rfl ?_
      refine A_iinc (j := 4) (v := (l4 + 1)) (L' := [(4, .int (l4 + 1)), (3, .int t4), (0, .ref x), (1, .int l1), (2, .int l2)]) X dX10_faceAfter_35 rfl rfl (by decide) rfl ?_
      refine A_goto (tgt := 24) X dX10_faceAfter_38 (by decide) ?_
      refine A_sub (L' := [(0, .ref x), (1, .int l1), (2, .int l2), (3, .int t4), (4, .int (l4 + 1))]) [2, 3, 4, 1, 0] rfl ?_
      exact i24  h
def f_X10_faceAfter (N : Nat) (sd : Int32) (dc : Int32) (fc : Nat → Int32) (dw : Nat → Int32) (a0 : Int32) (a1 : Int32) : Option (String ⊕ (Int32)) :=
  sbd (f_X10_requireDie dc a0) fun t1 =>
  sbd (f_X10_requireRange a1 1 200) fun t2 =>
  f_X10_faceAfter_L24 N sd dc fc dw N a0 a1 sd 0
set_option maxHeartbeats 4000000 in
set_option maxRecDepth 100000 in
theorem c_X10_faceAfter {E : KE} {l : Launch} {hp : Hp} {al : Option Nat} {N : Nat} {x : Nat} {sd : Int32} {mn : Int32} {th : Int32} {dc : Int32} {fc : Nat → Int32} {dw : Nat → Int32} {a0 : Int32} {a1 : Int32} {out : String ⊕ (Int32)} (g0 : hp x = some (.inr (10, [.ref (x + 126), .ref (x + 128), .ref (x + 1), .ref (x + 3), .ref (x + 16), .ref (x + 18), .ref (x + 124), .ref (x + 125)]))) (g3 : hp (x + 3) = some (.inr (2, [.ref (x + 4), .ref (x + 7), .ref (x + 10), .ref (x + 13), .int sd, .int mn, .int th]))) (g4 : hp (x + 4) = some (.inr (0, [.ref (x + 5), .ref (x + 6), .int dc]))) (g5 : hp (x + 5) = some (.inl (kC E 0, 6, .inl fc))) (g6 : hp (x + 6) = some (.inl (kC E 0, 72, .inl dw)))  (h : f_X10_faceAfter N sd dc fc dw a0 a1 = some out) : AX E l yX10_faceAfter cX10_faceAfter 5 (Option.some Jvm.ClassFile.FieldType.int) ⟨8, 2, 12, 124⟩ [.ref x, .int a0, .int a1] hp al (P_X10_faceAfter E x hp al out) (kThr out hp) := by
  refine A_ofX (by decide +kernel) (Nat.le_of_ble_eq_true rfl) ?_
  intro p e s m args below meth c X hr htb
  have X : CX E p l s m args meth c "DiceAudit" cX10_faceAfter 5 := X
  refine A_L (L' := [(0, .ref x), (1, .int a0), (2, .int a1)]) rfl ?_
  unfold f_X10_faceAfter at h
  refine A_aload_n X dX10_faceAfter_0 0 rfl ?_
  refine A_iload_n X dX10_faceAfter_1 1 rfl ?_
  rcases sbd_o h with ⟨c9, hc9, rfl⟩ | ⟨t1, hct1, h⟩
  · exact A_cX (k' := 1) (n' := 6) rfl rfl (A_runVX (rest := []) X dX10_faceAfter_2 (c_X10_requireDie g0 g3 g4  hc9) kY_X10_requireDie kw_958 g0 rfl rfl ⟨(Nat.le_of_ble_eq_true rfl), (Nat.le_of_ble_eq_true rfl), (Nat.le_of_ble_eq_true rfl), (Nat.le_of_ble_eq_true rfl)⟩ rfl (Nat.le_of_ble_eq_true rfl)) (fun C hp1 hP => by obtain ⟨hC, rfl⟩ := hP; cases hC; exact A_out X htb ⟨rfl, rfl⟩ (Nat.le_of_ble_eq_true rfl) (Nat.le_of_ble_eq_true rfl)) (fun v hp1 al1 hP => by obtain ⟨u, hu, _⟩ := hP; cases hu)
  refine A_cX (k' := 1) (n' := 6) rfl rfl (A_runVX (rest := []) X dX10_faceAfter_2 (c_X10_requireDie g0 g3 g4  hct1) kY_X10_requireDie kw_958 g0 rfl rfl ⟨(Nat.le_of_ble_eq_true rfl), (Nat.le_of_ble_eq_true rfl), (Nat.le_of_ble_eq_true rfl), (Nat.le_of_ble_eq_true rfl)⟩ rfl (Nat.le_of_ble_eq_true rfl)) (fun C hp1 hP => by obtain ⟨hC, _⟩ := hP; cases hC) (fun v9 hp1 al9 hP => ?_)
  obtain ⟨u9, hu9, rfl, rfl, rfl⟩ := hP
  cases hu9
  refine A_st (st' := []) rfl ?_
  refine A_iload_n X dX10_faceAfter_5 2 rfl ?_
  refine A_iconst (v := 1) X dX10_faceAfter_6 (by decide) ?_
  refine A_sipush (v := 200) X dX10_faceAfter_7 (by decide) ?_
  rcases sbd_o h with ⟨c9, hc9, rfl⟩ | ⟨t2, hct2, h⟩
  · exact A_cX (k' := 2) (n' := 12) rfl rfl (A_runSX (rest := []) X dX10_faceAfter_10 (c_X10_requireRange   hc9) kY_X10_requireRange kw_923 ⟨(Nat.le_of_ble_eq_true rfl), (Nat.le_of_ble_eq_true rfl), (Nat.le_of_ble_eq_true rfl), (Nat.le_of_ble_eq_true rfl)⟩ rfl (Nat.le_of_ble_eq_true rfl)) (fun C hp1 hP => by obtain ⟨hC, rfl⟩ := hP; cases hC; exact A_out X htb ⟨rfl, rfl⟩ (Nat.le_of_ble_eq_true rfl) (Nat.le_of_ble_eq_true rfl)) (fun v hp1 al1 hP => by obtain ⟨u, hu, _⟩ := hP; cases hu)
  refine A_cX (k' := 2) (n' := 12) rfl rfl (A_runSX (rest := []) X dX10_faceAfter_10 (c_X10_requireRange   hct2) kY_X10_requireRange kw_923 ⟨(Nat.le_of_ble_eq_true rfl), (Nat.le_of_ble_eq_true rfl), (Nat.le_of_ble_eq_true rfl), (Nat.le_of_ble_eq_true rfl)⟩ rfl (Nat.le_of_ble_eq_true rfl)) (fun C hp1 hP => by obtain ⟨hC, _⟩ := hP; cases hC) (fun v9 hp1 al9 hP => ?_)
  obtain ⟨u9, hu9, rfl, rfl, rfl⟩ := hP
  cases hu9
  refine A_st (st' := []) rfl ?_
  refine A_aload_n X dX10_faceAfter_13 0 rfl ?_
  refine A_get X dX10_faceAfter_14 kcl_X10 3 (by decide) kw_654 g0 rfl ?_
  refine A_get X dX10_faceAfter_17 kcl_X2 4 (by decide) kw_155 g3 rfl ?_
  refine A_istore_n (L' := [(3, .int sd), (0, .ref x), (1, .int a0), (2, .int a1)]) X dX10_faceAfter_20 rfl (by decide) rfl ?_
  refine A_iconst (v := 0) X dX10_faceAfter_21 (by decide) ?_
  refine A_istore (L' := [(4, .int 0), (3, .int sd), (0, .ref x), (1, .int a0), (2, .int a1)]) X dX10_faceAfter_22 (by decide) rfl ?_
  refine A_sub (L' := [(0, .ref x), (1, .int a0), (2, .int a1), (3, .int sd), (4, .int 0)]) [2, 3, 4, 1, 0] rfl ?_
  exact c_X10_faceAfter_L24 X hr htb g0 g3 g4 g5 g6 N  h
abbrev P_X10_throwsUntil (E : KE) (x : Nat)  (hp : Hp) (al : Option Nat) (out : String ⊕ (Int32)) : Option Value → Hp → Option Nat → Prop := fun v0 hp' al' => ∃ u, out = .inr u ∧ v0 = some (.int u) ∧ hp = hp' ∧ al = al'
def f_X10_throwsUntil_L22_F (N : Nat) (sd : Int32) (dc : Int32) (fc : Nat → Int32) (dw : Nat → Int32)  (r22 : Int32 → Int32 → Int32 → Int32 → Option (String ⊕ (Int32))) (l1 : Int32) (l2 : Int32) (l3 : Int32) (l4 : Int32) : Option (String ⊕ (Int32)) :=
  if 200 < l4 then
    some (.inr (-1))
  else
    (f_X10_nextSeed l3).bind fun t3 =>
    (f_X0_faceShown N fc dw l1 t3).bind fun t4 =>
    if t4 = l2 then
      some (.inr l4)
    else
      r22 l1 l2 t3 (l4 + 1)
def f_X10_throwsUntil_L22 (N : Nat) (sd : Int32) (dc : Int32) (fc : Nat → Int32) (dw : Nat → Int32)  : Nat → Int32 → Int32 → Int32 → Int32 → Option (String ⊕ (Int32))
  | 0 => fun _ _ _ _ => none
  | j + 1 => f_X10_throwsUntil_L22_F N sd dc fc dw (f_X10_throwsUntil_L22 N sd dc fc dw j)
set_option maxHeartbeats 4000000 in
set_option maxRecDepth 100000 in
theorem c_X10_throwsUntil_L22 {E : KE} {p : Program} {l : Launch} {e : Env} {s : State} {m : MethodId} {args : Array Value} {below : List Frame} {meth : Method} {c : Code} {al : Option Nat} {N : Nat} {x : Nat} {sd : Int32} {mn : Int32} {th : Int32} {dc : Int32} {fc : Nat → Int32} {dw : Nat → Int32} {hp0 : Hp} {out : String ⊕ (Int32)}  (X : CX E p l s m args meth c "DiceAudit" cX10_throwsUntil 5) (hr : meth.sig.returnType = (Option.some Jvm.ClassFile.FieldType.int)) (htb : ∀ x ∈ c.exceptionTable.toList, False)  (g0 : hp0 x = some (.inr (10, [.ref (x + 126), .ref (x + 128), .ref (x + 1), .ref (x + 3), .ref (x + 16), .ref (x + 18), .ref (x + 124), .ref (x + 125)]))) (g3 : hp0 (x + 3) = some (.inr (2, [.ref (x + 4), .ref (x + 7), .ref (x + 10), .ref (x + 13), .int sd, .int mn, .int th]))) (g4 : hp0 (x + 4) = some (.inr (0, [.ref (x + 5), .ref (x + 6), .int dc]))) (g5 : hp0 (x + 5) = some (.inl (kC E 0, 6, .inl fc))) (g6 : hp0 (x + 6) = some (.inl (kC E 0, 72, .inl dw))) : ∀ (j : Nat), ∀ {l1 : Int32} {l2 : Int32} {l3 : Int32} {l4 : Int32}, f_X10_throwsUntil_L22 N sd dc fc dw j l1 l2 l3 l4 = some out → AW E p l e ⟨8, 2, 12, 126⟩ s m args below meth c 5 (vx_MQ below (kQc E (P_X10_throwsUntil E x hp0 al out)) (kXC E (kThr out hp0)) args s 2 12 (kA E)) hp0 al 2 12 22 [(0, .ref x), (1, .int l1), (2, .int l2), (3, .int l3), (4, .int l4)] [] := by
  intro j
  induction j with
  | zero =>
    intro l1 l2 l3 l4 h
    have h : (none : Option (String ⊕ (Int32))) = some out := h
    cases h
  | succ j i22 =>
    intro l1 l2 l3 l4 h
    have h : f_X10_throwsUntil_L22_F N sd dc fc dw (f_X10_throwsUntil_L22 N sd dc fc dw j) l1 l2 l3 l4 = some out := h
    unfold f_X10_throwsUntil_L22_F at h
    refine A_iload X dX10_throwsUntil_22 4 rfl ?_
    refine A_sipush (v := 200) X dX10_throwsUntil_24 (by decide) ?_
    refine A_icmp_gt (tgt := 60) X dX10_throwsUntil_27 h (by decide) (fun hc h => ?_) (fun hc h => ?_)
    · refine A_iconst (v := (-1)) X dX10_throwsUntil_60 (by decide) ?_
      cases h
      exact A_iretX X dX10_throwsUntil_61 hr ⟨_, rfl, rfl, rfl, rfl⟩ (Nat.le_of_ble_eq_true rfl) (Nat.le_of_ble_eq_true rfl)
    · refine A_iload_n X dX10_throwsUntil_30 3 rfl ?_
      obtain ⟨t3, hct3, h⟩ := bind_o h
      refine A_cp (k' := 2) (n' := 12) (A_runS (rest := []) X dX10_throwsUntil_31 (c_X10_nextSeed   hct3) kY_X10_nextSeed kw_1247 ⟨(Nat.le_of_ble_eq_true rfl), (Nat.le_of_ble_eq_true rfl), (Nat.le_of_ble_eq_true rfl), (Nat.le_of_ble_eq_true rfl)⟩ rfl (Nat.le_of_ble_eq_true rfl)) rfl rfl ?_
      refine A_istore_n (L' := [(3, .int t3), (0, .ref x), (1, .int l1), (2, .int l2), (4, .int l4)]) X dX10_throwsUntil_34 rfl (by decide) rfl ?_
      refine A_aload_n X dX10_throwsUntil_35 1 rfl ?_
      refine A_get X dX10_throwsUntil_36 kcl_X10 3 (by decide) kw_654 g0 rfl ?_
      refine A_get X dX10_throwsUntil_39 kcl_X2 0 (by decide) kw_142 g3 rfl ?_
      refine A_iload_n X dX10_throwsUntil_42 2 rfl ?_
      refine A_iload_n X dX10_throwsUntil_43 0 rfl ?_
      obtain ⟨t4, hct4, h⟩ := bind_o h
      refine A_cp (k' := 2) (n' := 12) (A_runV (rest := []) X dX10_throwsUntil_44 (c_X0_faceShown g4 g5 g6  hct4) kY_X0_faceShown kw_1248 g4 rfl rfl ⟨(Nat.le_of_ble_eq_true rfl), (Nat.le_of_ble_eq_true rfl), (Nat.le_of_ble_eq_true rfl), (Nat.le_of_ble_eq_true rfl)⟩ rfl (Nat.le_of_ble_eq_true rfl)) rfl rfl ?_
      refine A_iload_n X dX10_throwsUntil_47 3 rfl ?_
      refine A_icmp_ne (tgt := 54) X dX10_throwsUntil_48 h (by decide) (fun hc h => ?_) (fun hc h => ?_)
      · refine A_iinc (j := 4) (v := (l4 + 1)) (L' := [(4, .int (l4 + 1)), (3, .int t3), (0, .ref x), (1, .int l1), (2, .int l2)]) X dX10_throwsUntil_54 rfl rfl (by decide) rfl ?_
        refine A_goto (tgt := 22) X dX10_throwsUntil_57 (by decide) ?_
        refine A_sub (L' := [(0, .ref x), (1, .int l1), (2, .int l2), (3, .int t3), (4, .int (l4 + 1))]) [2, 3, 4, 1, 0] rfl ?_
        exact i22  h
      · refine A_iload X dX10_throwsUntil_51 4 rfl ?_
        cases h
        exact A_iretX X dX10_throwsUntil_53 hr ⟨_, rfl, rfl, rfl, rfl⟩ (Nat.le_of_ble_eq_true rfl) (Nat.le_of_ble_eq_true rfl)
def f_X10_throwsUntil (N : Nat) (sd : Int32) (dc : Int32) (fc : Nat → Int32) (dw : Nat → Int32) (a0 : Int32) (a1 : Int32) : Option (String ⊕ (Int32)) :=
  sbd (f_X10_requireDie dc a0) fun t1 =>
  sbd (f_X10_requireFace fc a0 a1) fun t2 =>
  f_X10_throwsUntil_L22 N sd dc fc dw N a0 a1 sd 1
set_option maxHeartbeats 4000000 in
set_option maxRecDepth 100000 in
theorem c_X10_throwsUntil {E : KE} {l : Launch} {hp : Hp} {al : Option Nat} {N : Nat} {x : Nat} {sd : Int32} {mn : Int32} {th : Int32} {dc : Int32} {fc : Nat → Int32} {dw : Nat → Int32} {a0 : Int32} {a1 : Int32} {out : String ⊕ (Int32)} (g0 : hp x = some (.inr (10, [.ref (x + 126), .ref (x + 128), .ref (x + 1), .ref (x + 3), .ref (x + 16), .ref (x + 18), .ref (x + 124), .ref (x + 125)]))) (g3 : hp (x + 3) = some (.inr (2, [.ref (x + 4), .ref (x + 7), .ref (x + 10), .ref (x + 13), .int sd, .int mn, .int th]))) (g4 : hp (x + 4) = some (.inr (0, [.ref (x + 5), .ref (x + 6), .int dc]))) (g5 : hp (x + 5) = some (.inl (kC E 0, 6, .inl fc))) (g6 : hp (x + 6) = some (.inl (kC E 0, 72, .inl dw)))  (h : f_X10_throwsUntil N sd dc fc dw a0 a1 = some out) : AX E l yX10_throwsUntil cX10_throwsUntil 5 (Option.some Jvm.ClassFile.FieldType.int) ⟨8, 2, 12, 126⟩ [.ref x, .int a0, .int a1] hp al (P_X10_throwsUntil E x hp al out) (kThr out hp) := by
  refine A_ofX (by decide +kernel) (Nat.le_of_ble_eq_true rfl) ?_
  intro p e s m args below meth c X hr htb
  have X : CX E p l s m args meth c "DiceAudit" cX10_throwsUntil 5 := X
  refine A_L (L' := [(0, .ref x), (1, .int a0), (2, .int a1)]) rfl ?_
  unfold f_X10_throwsUntil at h
  refine A_aload_n X dX10_throwsUntil_0 0 rfl ?_
  refine A_iload_n X dX10_throwsUntil_1 1 rfl ?_
  rcases sbd_o h with ⟨c9, hc9, rfl⟩ | ⟨t1, hct1, h⟩
  · exact A_cX (k' := 1) (n' := 6) rfl rfl (A_runVX (rest := []) X dX10_throwsUntil_2 (c_X10_requireDie g0 g3 g4  hc9) kY_X10_requireDie kw_958 g0 rfl rfl ⟨(Nat.le_of_ble_eq_true rfl), (Nat.le_of_ble_eq_true rfl), (Nat.le_of_ble_eq_true rfl), (Nat.le_of_ble_eq_true rfl)⟩ rfl (Nat.le_of_ble_eq_true rfl)) (fun C hp1 hP => by obtain ⟨hC, rfl⟩ := hP; cases hC; exact A_out X htb ⟨rfl, rfl⟩ (Nat.le_of_ble_eq_true rfl) (Nat.le_of_ble_eq_true rfl)) (fun v hp1 al1 hP => by obtain ⟨u, hu, _⟩ := hP; cases hu)
  refine A_cX (k' := 1) (n' := 6) rfl rfl (A_runVX (rest := []) X dX10_throwsUntil_2 (c_X10_requireDie g0 g3 g4  hct1) kY_X10_requireDie kw_958 g0 rfl rfl ⟨(Nat.le_of_ble_eq_true rfl), (Nat.le_of_ble_eq_true rfl), (Nat.le_of_ble_eq_true rfl), (Nat.le_of_ble_eq_true rfl)⟩ rfl (Nat.le_of_ble_eq_true rfl)) (fun C hp1 hP => by obtain ⟨hC, _⟩ := hP; cases hC) (fun v9 hp1 al9 hP => ?_)
  obtain ⟨u9, hu9, rfl, rfl, rfl⟩ := hP
  cases hu9
  refine A_st (st' := []) rfl ?_
  refine A_aload_n X dX10_throwsUntil_5 0 rfl ?_
  refine A_iload_n X dX10_throwsUntil_6 1 rfl ?_
  refine A_iload_n X dX10_throwsUntil_7 2 rfl ?_
  rcases sbd_o h with ⟨c9, hc9, rfl⟩ | ⟨t2, hct2, h⟩
  · exact A_cX (k' := 2) (n' := 12) rfl rfl (A_runVX (rest := []) X dX10_throwsUntil_8 (c_X10_requireFace g0 g3 g4 g5  hc9) kY_X10_requireFace kw_989 g0 rfl rfl ⟨(Nat.le_of_ble_eq_true rfl), (Nat.le_of_ble_eq_true rfl), (Nat.le_of_ble_eq_true rfl), (Nat.le_of_ble_eq_true rfl)⟩ rfl (Nat.le_of_ble_eq_true rfl)) (fun C hp1 hP => by obtain ⟨hC, rfl⟩ := hP; cases hC; exact A_out X htb ⟨rfl, rfl⟩ (Nat.le_of_ble_eq_true rfl) (Nat.le_of_ble_eq_true rfl)) (fun v hp1 al1 hP => by obtain ⟨u, hu, _⟩ := hP; cases hu)
  refine A_cX (k' := 2) (n' := 12) rfl rfl (A_runVX (rest := []) X dX10_throwsUntil_8 (c_X10_requireFace g0 g3 g4 g5  hct2) kY_X10_requireFace kw_989 g0 rfl rfl ⟨(Nat.le_of_ble_eq_true rfl), (Nat.le_of_ble_eq_true rfl), (Nat.le_of_ble_eq_true rfl), (Nat.le_of_ble_eq_true rfl)⟩ rfl (Nat.le_of_ble_eq_true rfl)) (fun C hp1 hP => by obtain ⟨hC, _⟩ := hP; cases hC) (fun v9 hp1 al9 hP => ?_)
  obtain ⟨u9, hu9, rfl, rfl, rfl⟩ := hP
  cases hu9
  refine A_st (st' := []) rfl ?_
  refine A_aload_n X dX10_throwsUntil_11 0 rfl ?_
  refine A_get X dX10_throwsUntil_12 kcl_X10 3 (by decide) kw_654 g0 rfl ?_
  refine A_get X dX10_throwsUntil_15 kcl_X2 4 (by decide) kw_155 g3 rfl ?_
  refine A_istore_n (L' := [(3, .int sd), (0, .ref x), (1, .int a0), (2, .int a1)]) X dX10_throwsUntil_18 rfl (by decide) rfl ?_
  refine A_iconst (v := 1) X dX10_throwsUntil_19 (by decide) ?_
  refine A_istore (L' := [(4, .int 1), (3, .int sd), (0, .ref x), (1, .int a0), (2, .int a1)]) X dX10_throwsUntil_20 (by decide) rfl ?_
  refine A_sub (L' := [(0, .ref x), (1, .int a0), (2, .int a1), (3, .int sd), (4, .int 1)]) [2, 3, 4, 1, 0] rfl ?_
  exact c_X10_throwsUntil_L22 X hr htb g0 g3 g4 g5 g6 N  h
abbrev P_X10_scoreAfter (E : KE) (x : Nat)  (hp : Hp) (al : Option Nat) (out : String ⊕ (Int32 × Int32 × Int32 × (Nat → Int32))) : Option Value → Hp → Option Nat → Prop := fun v0 hp' al' => ∃ u, out = .inr u ∧ v0 = some (.int u.1) ∧ hp' (x + 16) = some (.inr (1, [.ref (x + 17), .int u.2.1, .int u.2.2.1])) ∧ hp' (x + 17) = some (.inl (kC E 0, 12, .inl u.2.2.2)) ∧ (∀ q, q ≠ (x + 16) → q ≠ (x + 17) → hp' q = hp q) ∧ al = al'
def f_X10_scoreAfter_L29_F (N : Nat) (sd : Int32) (dc : Int32) (fc : Nat → Int32) (dw : Nat → Int32) (pc : Int32) (fr : Nat → Int32)  (r29 : Int32 → Int32 → Int32 → Int32 → (Nat → Int32) → Option (String ⊕ (Int32 × Int32 × Int32 × (Nat → Int32)))) (l3 : Int32) (l4 : Int32) (fd : Int32) (fs : Int32) (ff : Nat → Int32) : Option (String ⊕ (Int32 × Int32 × Int32 × (Nat → Int32))) :=
  if l3 ≤ l4 then
    (f_X1_presentScore N fd ff fc).bind fun t4 =>
    some (.inr (t4, fd, fs, ff))
  else
    (f_X1_throwOnce N fd fc dw fs ff).bind fun t5 =>
    r29 l3 (l4 + 1) fd t5.1 t5.2
def f_X10_scoreAfter_L29 (N : Nat) (sd : Int32) (dc : Int32) (fc : Nat → Int32) (dw : Nat → Int32) (pc : Int32) (fr : Nat → Int32)  : Nat → Int32 → Int32 → Int32 → Int32 → (Nat → Int32) → Option (String ⊕ (Int32 × Int32 × Int32 × (Nat → Int32)))
  | 0 => fun _ _ _ _ _ => none
  | j + 1 => f_X10_scoreAfter_L29_F N sd dc fc dw pc fr (f_X10_scoreAfter_L29 N sd dc fc dw pc fr j)
set_option maxHeartbeats 4000000 in
set_option maxRecDepth 100000 in
theorem c_X10_scoreAfter_L29 {E : KE} {p : Program} {l : Launch} {e : Env} {s : State} {m : MethodId} {args : Array Value} {below : List Frame} {meth : Method} {c : Code} {al : Option Nat} {N : Nat} {x : Nat} {sd : Int32} {mn : Int32} {th : Int32} {dc : Int32} {fc : Nat → Int32} {dw : Nat → Int32} {pc : Int32} {tc : Int32} {fr : Nat → Int32} {hp0 : Hp} {out : String ⊕ (Int32 × Int32 × Int32 × (Nat → Int32))}  (X : CX E p l s m args meth c "DiceAudit" cX10_scoreAfter 5) (hr : meth.sig.returnType = (Option.some Jvm.ClassFile.FieldType.int)) (htb : ∀ x ∈ c.exceptionTable.toList, False)   : ∀ (j : Nat), ∀ {l3 : Int32} {l4 : Int32} {fd : Int32} {fs : Int32} {ff : Nat → Int32} {hp : Hp}, hp x = some (.inr (10, [.ref (x + 126), .ref (x + 128), .ref (x + 1), .ref (x + 3), .ref (x + 16), .ref (x + 18), .ref (x + 124), .ref (x + 125)])) → hp (x + 3) = some (.inr (2, [.ref (x + 4), .ref (x + 7), .ref (x + 10), .ref (x + 13), .int sd, .int mn, .int th])) → hp (x + 4) = some (.inr (0, [.ref (x + 5), .ref (x + 6), .int dc])) → hp (x + 5) = some (.inl (kC E 0, 6, .inl fc)) → hp (x + 6) = some (.inl (kC E 0, 72, .inl dw)) → hp (x + 7) = some (.inr (7, [.ref (x + 8), .ref (x + 9), .int pc])) → hp (x + 10) = some (.inr (4, [.ref (x + 11), .ref (x + 12), .int tc])) → hp (x + 12) = some (.inl (kC E 0, 432, .inl fr)) → hp (x + 16) = some (.inr (1, [.ref (x + 17), .int fd, .int fs])) → hp (x + 17) = some (.inl (kC E 0, 12, .inl ff)) → (∀ q, q ≠ (x + 16) → q ≠ (x + 17) → hp q = hp0 q) → f_X10_scoreAfter_L29 N sd dc fc dw pc fr j l3 l4 fd fs ff = some out → AW E p l e ⟨9, 3, 18, 146⟩ s m args below meth c 5 (vx_MQ below (kQc E (P_X10_scoreAfter E x hp0 al out)) (kXC E (kThr out hp0)) args s 3 18 (kA E)) hp al 3 18 29 [(0, .ref x), (3, .int l3), (4, .int l4)] [] := by
  intro j
  induction j with
  | zero =>
    intro l3 l4 fd fs ff hp g0 g3 g4 g5 g6 g7 g10 g12 g16 g17 hfr h
    have h : (none : Option (String ⊕ (Int32 × Int32 × Int32 × (Nat → Int32)))) = some out := h
    cases h
  | succ j i29 =>
    intro l3 l4 fd fs ff hp g0 g3 g4 g5 g6 g7 g10 g12 g16 g17 hfr h
    have h : f_X10_scoreAfter_L29_F N sd dc fc dw pc fr (f_X10_scoreAfter_L29 N sd dc fc dw pc fr j) l3 l4 fd fs ff = some out := h
    unfold f_X10_scoreAfter_L29_F at h
    refine A_iload X dX10_scoreAfter_29 2 rfl ?_
    refine A_iload_n X dX10_scoreAfter_31 1 rfl ?_
    refine A_icmp_ge (tgt := 52) X dX10_scoreAfter_32 h (by decide) (fun hc h => ?_) (fun hc h => ?_)
    · refine A_aload_n X dX10_scoreAfter_52 0 rfl ?_
      refine A_get X dX10_scoreAfter_53 kcl_X10 4 (by decide) kw_655 g0 rfl ?_
      refine A_aload_n X dX10_scoreAfter_56 0 rfl ?_
      refine A_get X dX10_scoreAfter_57 kcl_X10 3 (by decide) kw_654 g0 rfl ?_
      obtain ⟨t4, hct4, h⟩ := bind_o h
      refine A_cp (k' := 3) (n' := 18) (A_runV (rest := []) X dX10_scoreAfter_60 (c_X1_presentScore g16 g17 g3 g4 g5  hct4) kY_X1_presentScore kw_1284 g16 rfl rfl ⟨(Nat.le_of_ble_eq_true rfl), (Nat.le_of_ble_eq_true rfl), (Nat.le_of_ble_eq_true rfl), (Nat.le_of_ble_eq_true rfl)⟩ rfl (Nat.le_of_ble_eq_true rfl)) rfl rfl ?_
      cases h
      exact A_iretX X dX10_scoreAfter_63 hr ⟨_, rfl, rfl, g16, g17, (fun q z0 z1 => (hfr q z0 z1)), rfl⟩ (Nat.le_of_ble_eq_true rfl) (Nat.le_of_ble_eq_true rfl)
    · refine A_aload_n X dX10_scoreAfter_35 0 rfl ?_
      refine A_get X dX10_scoreAfter_36 kcl_X10 4 (by decide) kw_655 g0 rfl ?_
      refine A_aload_n X dX10_scoreAfter_39 0 rfl ?_
      refine A_get X dX10_scoreAfter_40 kcl_X10 3 (by decide) kw_654 g0 rfl ?_
      obtain ⟨t5, hct5, h⟩ := bind_o h
      refine A_c (k' := 3) (n' := 18) rfl rfl (A_runV (rest := []) X dX10_scoreAfter_43 (c_X1_throwOnce g16 g17 g3 g4 g5 g6 (by omega) hct5) kY_X1_throwOnce kw_1278 g16 rfl rfl ⟨(Nat.le_of_ble_eq_true rfl), (Nat.le_of_ble_eq_true rfl), (Nat.le_of_ble_eq_true rfl), (Nat.le_of_ble_eq_true rfl)⟩ rfl (Nat.le_of_ble_eq_true rfl)) (fun v9 hp1 al9 hP => ?_)
      obtain ⟨rfl, k1_0, k1_1, n1, rfl⟩ := hP
      replace k1_0 : hp1 (x + 16) = some (.inr (1, [.ref (x + 17), .int fd, .int t5.1])) := k1_0
      replace k1_1 : hp1 (x + 17) = some (.inl (kC E 0, 12, .inl t5.2)) := k1_1
      refine A_st (st' := []) rfl ?_
      refine A_iinc (j := 2) (v := (l4 + 1)) (L' := [(4, .int (l4 + 1)), (0, .ref x), (3, .int l3)]) X dX10_scoreAfter_46 rfl rfl (by decide) rfl ?_
      refine A_goto (tgt := 29) X dX10_scoreAfter_49 (by decide) ?_
      refine A_sub (L' := [(0, .ref x), (3, .int l3), (4, .int (l4 + 1))]) [1, 2, 0] rfl ?_
      exact i29 ((n1 _ (by omega) (by omega)).trans g0) ((n1 _ (by omega) (by omega)).trans g3) ((n1 _ (by omega) (by omega)).trans g4) ((n1 _ (by omega) (by omega)).trans g5) ((n1 _ (by omega) (by omega)).trans g6) ((n1 _ (by omega) (by omega)).trans g7) ((n1 _ (by omega) (by omega)).trans g10) ((n1 _ (by omega) (by omega)).trans g12) k1_0 k1_1 (fun q z0 z1 => ((n1 q z0 z1).trans (hfr q z0 z1))) h
def f_X10_scoreAfter (N : Nat) (sd : Int32) (dc : Int32) (fc : Nat → Int32) (dw : Nat → Int32) (pc : Int32) (fr : Nat → Int32) (fd : Int32) (fs : Int32) (ff : Nat → Int32) (a0 : Int32) (a1 : Int32) (a2 : Int32) : Option (String ⊕ (Int32 × Int32 × Int32 × (Nat → Int32))) :=
  sbd (f_X10_requirePair dc pc a0 a1) fun t1 =>
  sbd (f_X10_requireRange a2 0 50) fun t2 =>
  (f_X1_begin N sd fr fd fs ff a0 a1).bind fun t3 =>
  f_X10_scoreAfter_L29 N sd dc fc dw pc fr N a2 0 t3.1 t3.2.1 t3.2.2
set_option maxHeartbeats 4000000 in
set_option maxRecDepth 100000 in
theorem c_X10_scoreAfter {E : KE} {l : Launch} {hp : Hp} {al : Option Nat} {N : Nat} {x : Nat} {sd : Int32} {mn : Int32} {th : Int32} {dc : Int32} {fc : Nat → Int32} {dw : Nat → Int32} {pc : Int32} {tc : Int32} {fr : Nat → Int32} {fd : Int32} {fs : Int32} {ff : Nat → Int32} {a0 : Int32} {a1 : Int32} {a2 : Int32} {out : String ⊕ (Int32 × Int32 × Int32 × (Nat → Int32))} (g0 : hp x = some (.inr (10, [.ref (x + 126), .ref (x + 128), .ref (x + 1), .ref (x + 3), .ref (x + 16), .ref (x + 18), .ref (x + 124), .ref (x + 125)]))) (g3 : hp (x + 3) = some (.inr (2, [.ref (x + 4), .ref (x + 7), .ref (x + 10), .ref (x + 13), .int sd, .int mn, .int th]))) (g4 : hp (x + 4) = some (.inr (0, [.ref (x + 5), .ref (x + 6), .int dc]))) (g5 : hp (x + 5) = some (.inl (kC E 0, 6, .inl fc))) (g6 : hp (x + 6) = some (.inl (kC E 0, 72, .inl dw))) (g7 : hp (x + 7) = some (.inr (7, [.ref (x + 8), .ref (x + 9), .int pc]))) (g10 : hp (x + 10) = some (.inr (4, [.ref (x + 11), .ref (x + 12), .int tc]))) (g12 : hp (x + 12) = some (.inl (kC E 0, 432, .inl fr))) (g16 : hp (x + 16) = some (.inr (1, [.ref (x + 17), .int fd, .int fs]))) (g17 : hp (x + 17) = some (.inl (kC E 0, 12, .inl ff)))  (h : f_X10_scoreAfter N sd dc fc dw pc fr fd fs ff a0 a1 a2 = some out) : AX E l yX10_scoreAfter cX10_scoreAfter 5 (Option.some Jvm.ClassFile.FieldType.int) ⟨9, 3, 18, 146⟩ [.ref x, .int a0, .int a1, .int a2] hp al (P_X10_scoreAfter E x hp al out) (kThr out hp) := by
  refine A_ofX (by decide +kernel) (Nat.le_of_ble_eq_true rfl) ?_
  intro p e s m args below meth c X hr htb
  have X : CX E p l s m args meth c "DiceAudit" cX10_scoreAfter 5 := X
  refine A_L (L' := [(0, .ref x), (1, .int a0), (2, .int a1), (3, .int a2)]) rfl ?_
  unfold f_X10_scoreAfter at h
  refine A_aload_n X dX10_scoreAfter_0 0 rfl ?_
  refine A_iload_n X dX10_scoreAfter_1 1 rfl ?_
  refine A_iload_n X dX10_scoreAfter_2 2 rfl ?_
  rcases sbd_o h with ⟨c9, hc9, rfl⟩ | ⟨t1, hct1, h⟩
  · exact A_cX (k' := 2) (n' := 12) rfl rfl (A_runVX (rest := []) X dX10_scoreAfter_3 (c_X10_requirePair g0 g3 g4 g7  hc9) kY_X10_requirePair kw_1150 g0 rfl rfl ⟨(Nat.le_of_ble_eq_true rfl), (Nat.le_of_ble_eq_true rfl), (Nat.le_of_ble_eq_true rfl), (Nat.le_of_ble_eq_true rfl)⟩ rfl (Nat.le_of_ble_eq_true rfl)) (fun C hp1 hP => by obtain ⟨hC, rfl⟩ := hP; cases hC; exact A_out X htb ⟨rfl, rfl⟩ (Nat.le_of_ble_eq_true rfl) (Nat.le_of_ble_eq_true rfl)) (fun v hp1 al1 hP => by obtain ⟨u, hu, _⟩ := hP; cases hu)
  refine A_cX (k' := 2) (n' := 12) rfl rfl (A_runVX (rest := []) X dX10_scoreAfter_3 (c_X10_requirePair g0 g3 g4 g7  hct1) kY_X10_requirePair kw_1150 g0 rfl rfl ⟨(Nat.le_of_ble_eq_true rfl), (Nat.le_of_ble_eq_true rfl), (Nat.le_of_ble_eq_true rfl), (Nat.le_of_ble_eq_true rfl)⟩ rfl (Nat.le_of_ble_eq_true rfl)) (fun C hp1 hP => by obtain ⟨hC, _⟩ := hP; cases hC) (fun v9 hp1 al9 hP => ?_)
  obtain ⟨u9, hu9, rfl, rfl, rfl⟩ := hP
  cases hu9
  refine A_st (st' := []) rfl ?_
  refine A_iload_n X dX10_scoreAfter_6 3 rfl ?_
  refine A_iconst (v := 0) X dX10_scoreAfter_7 (by decide) ?_
  refine A_bipush (v := 50) X dX10_scoreAfter_8 (by decide) ?_
  rcases sbd_o h with ⟨c9, hc9, rfl⟩ | ⟨t2, hct2, h⟩
  · exact A_cX (k' := 3) (n' := 18) rfl rfl (A_runSX (rest := []) X dX10_scoreAfter_10 (c_X10_requireRange   hc9) kY_X10_requireRange kw_923 ⟨(Nat.le_of_ble_eq_true rfl), (Nat.le_of_ble_eq_true rfl), (Nat.le_of_ble_eq_true rfl), (Nat.le_of_ble_eq_true rfl)⟩ rfl (Nat.le_of_ble_eq_true rfl)) (fun C hp1 hP => by obtain ⟨hC, rfl⟩ := hP; cases hC; exact A_out X htb ⟨rfl, rfl⟩ (Nat.le_of_ble_eq_true rfl) (Nat.le_of_ble_eq_true rfl)) (fun v hp1 al1 hP => by obtain ⟨u, hu, _⟩ := hP; cases hu)
  refine A_cX (k' := 3) (n' := 18) rfl rfl (A_runSX (rest := []) X dX10_scoreAfter_10 (c_X10_requireRange   hct2) kY_X10_requireRange kw_923 ⟨(Nat.le_of_ble_eq_true rfl), (Nat.le_of_ble_eq_true rfl), (Nat.le_of_ble_eq_true rfl), (Nat.le_of_ble_eq_true rfl)⟩ rfl (Nat.le_of_ble_eq_true rfl)) (fun C hp1 hP => by obtain ⟨hC, _⟩ := hP; cases hC) (fun v9 hp1 al9 hP => ?_)
  obtain ⟨u9, hu9, rfl, rfl, rfl⟩ := hP
  cases hu9
  refine A_st (st' := []) rfl ?_
  refine A_aload_n X dX10_scoreAfter_13 0 rfl ?_
  refine A_get X dX10_scoreAfter_14 kcl_X10 4 (by decide) kw_655 g0 rfl ?_
  refine A_aload_n X dX10_scoreAfter_17 0 rfl ?_
  refine A_get X dX10_scoreAfter_18 kcl_X10 3 (by decide) kw_654 g0 rfl ?_
  refine A_iload_n X dX10_scoreAfter_21 1 rfl ?_
  refine A_iload_n X dX10_scoreAfter_22 2 rfl ?_
  obtain ⟨t3, hct3, h⟩ := bind_o h
  refine A_c (k' := 3) (n' := 18) rfl rfl (A_runV (rest := []) X dX10_scoreAfter_23 (c_X1_begin g16 g17 g3 g10 g12 (by omega) hct3) kY_X1_begin kw_1270 g16 rfl rfl ⟨(Nat.le_of_ble_eq_true rfl), (Nat.le_of_ble_eq_true rfl), (Nat.le_of_ble_eq_true rfl), (Nat.le_of_ble_eq_true rfl)⟩ rfl (Nat.le_of_ble_eq_true rfl)) (fun v9 hp1 al9 hP => ?_)
  obtain ⟨rfl, k1_0, k1_1, n1, rfl⟩ := hP
  replace k1_0 : hp1 (x + 16) = some (.inr (1, [.ref (x + 17), .int t3.1, .int t3.2.1])) := k1_0
  replace k1_1 : hp1 (x + 17) = some (.inl (kC E 0, 12, .inl t3.2.2)) := k1_1
  refine A_st (st' := []) rfl ?_
  refine A_iconst (v := 0) X dX10_scoreAfter_26 (by decide) ?_
  refine A_istore (L' := [(4, .int 0), (0, .ref x), (1, .int a0), (2, .int a1), (3, .int a2)]) X dX10_scoreAfter_27 (by decide) rfl ?_
  refine A_sub (L' := [(0, .ref x), (3, .int a2), (4, .int 0)]) [1, 4, 0] rfl ?_
  exact c_X10_scoreAfter_L29 X hr htb  N ((n1 _ (by omega) (by omega)).trans g0) ((n1 _ (by omega) (by omega)).trans g3) ((n1 _ (by omega) (by omega)).trans g4) ((n1 _ (by omega) (by omega)).trans g5) ((n1 _ (by omega) (by omega)).trans g6) ((n1 _ (by omega) (by omega)).trans g7) ((n1 _ (by omega) (by omega)).trans g10) ((n1 _ (by omega) (by omega)).trans g12) k1_0 k1_1 (fun q z0 z1 => (n1 q z0 z1)) h
abbrev P_X10_throwsUntilSuspicious (E : KE) (x : Nat)  (hp : Hp) (al : Option Nat) (out : String ⊕ (Int32 × Int32 × Int32 × (Nat → Int32))) : Option Value → Hp → Option Nat → Prop := fun v0 hp' al' => ∃ u, out = .inr u ∧ v0 = some (.int u.1) ∧ hp' (x + 16) = some (.inr (1, [.ref (x + 17), .int u.2.1, .int u.2.2.1])) ∧ hp' (x + 17) = some (.inl (kC E 0, 12, .inl u.2.2.2)) ∧ (∀ q, q ≠ (x + 16) → q ≠ (x + 17) → hp' q = hp q) ∧ al = al'
def f_X10_throwsUntilSuspicious_L21_F (N : Nat) (sd : Int32) (mn : Int32) (th : Int32) (dc : Int32) (fc : Nat → Int32) (dw : Nat → Int32) (pc : Int32) (fr : Nat → Int32)  (r21 : Int32 → Int32 → Int32 → (Nat → Int32) → Option (String ⊕ (Int32 × Int32 × Int32 × (Nat → Int32)))) (l3 : Int32) (fd : Int32) (fs : Int32) (ff : Nat → Int32) : Option (String ⊕ (Int32 × Int32 × Int32 × (Nat → Int32))) :=
  if 50 < l3 then
    some (.inr ((-1), fd, fs, ff))
  else
    (f_X1_made N ff).bind fun t3 =>
    (f_X1_presentScore N fd ff fc).bind fun t4 =>
    (f_X2_exceedsLimits mn th t3 t4).bind fun t5 =>
    if t5 = 0 then
      (f_X1_throwOnce N fd fc dw fs ff).bind fun t6 =>
      r21 (l3 + 1) fd t6.1 t6.2
    else
      some (.inr (l3, fd, fs, ff))
def f_X10_throwsUntilSuspicious_L21 (N : Nat) (sd : Int32) (mn : Int32) (th : Int32) (dc : Int32) (fc : Nat → Int32) (dw : Nat → Int32) (pc : Int32) (fr : Nat → Int32)  : Nat → Int32 → Int32 → Int32 → (Nat → Int32) → Option (String ⊕ (Int32 × Int32 × Int32 × (Nat → Int32)))
  | 0 => fun _ _ _ _ => none
  | j + 1 => f_X10_throwsUntilSuspicious_L21_F N sd mn th dc fc dw pc fr (f_X10_throwsUntilSuspicious_L21 N sd mn th dc fc dw pc fr j)
set_option maxHeartbeats 4000000 in
set_option maxRecDepth 100000 in
theorem c_X10_throwsUntilSuspicious_L21 {E : KE} {p : Program} {l : Launch} {e : Env} {s : State} {m : MethodId} {args : Array Value} {below : List Frame} {meth : Method} {c : Code} {al : Option Nat} {N : Nat} {x : Nat} {sd : Int32} {mn : Int32} {th : Int32} {dc : Int32} {fc : Nat → Int32} {dw : Nat → Int32} {pc : Int32} {tc : Int32} {fr : Nat → Int32} {hp0 : Hp} {out : String ⊕ (Int32 × Int32 × Int32 × (Nat → Int32))}  (X : CX E p l s m args meth c "DiceAudit" cX10_throwsUntilSuspicious 4) (hr : meth.sig.returnType = (Option.some Jvm.ClassFile.FieldType.int)) (htb : ∀ x ∈ c.exceptionTable.toList, False)   : ∀ (j : Nat), ∀ {l3 : Int32} {fd : Int32} {fs : Int32} {ff : Nat → Int32} {hp : Hp}, hp x = some (.inr (10, [.ref (x + 126), .ref (x + 128), .ref (x + 1), .ref (x + 3), .ref (x + 16), .ref (x + 18), .ref (x + 124), .ref (x + 125)])) → hp (x + 3) = some (.inr (2, [.ref (x + 4), .ref (x + 7), .ref (x + 10), .ref (x + 13), .int sd, .int mn, .int th])) → hp (x + 4) = some (.inr (0, [.ref (x + 5), .ref (x + 6), .int dc])) → hp (x + 5) = some (.inl (kC E 0, 6, .inl fc)) → hp (x + 6) = some (.inl (kC E 0, 72, .inl dw)) → hp (x + 7) = some (.inr (7, [.ref (x + 8), .ref (x + 9), .int pc])) → hp (x + 10) = some (.inr (4, [.ref (x + 11), .ref (x + 12), .int tc])) → hp (x + 12) = some (.inl (kC E 0, 432, .inl fr)) → hp (x + 16) = some (.inr (1, [.ref (x + 17), .int fd, .int fs])) → hp (x + 17) = some (.inl (kC E 0, 12, .inl ff)) → (∀ q, q ≠ (x + 16) → q ≠ (x + 17) → hp q = hp0 q) → f_X10_throwsUntilSuspicious_L21 N sd mn th dc fc dw pc fr j l3 fd fs ff = some out → AW E p l e ⟨9, 2, 12, 146⟩ s m args below meth c 4 (vx_MQ below (kQc E (P_X10_throwsUntilSuspicious E x hp0 al out)) (kXC E (kThr out hp0)) args s 2 12 (kA E)) hp al 2 12 21 [(0, .ref x), (3, .int l3)] [] := by
  intro j
  induction j with
  | zero =>
    intro l3 fd fs ff hp g0 g3 g4 g5 g6 g7 g10 g12 g16 g17 hfr h
    have h : (none : Option (String ⊕ (Int32 × Int32 × Int32 × (Nat → Int32)))) = some out := h
    cases h
  | succ j i21 =>
    intro l3 fd fs ff hp g0 g3 g4 g5 g6 g7 g10 g12 g16 g17 hfr h
    have h : f_X10_throwsUntilSuspicious_L21_F N sd mn th dc fc dw pc fr (f_X10_throwsUntilSuspicious_L21 N sd mn th dc fc dw pc fr j) l3 fd fs ff = some out := h
    unfold f_X10_throwsUntilSuspicious_L21_F at h
    refine A_iload_n X dX10_throwsUntilSuspicious_21 1 rfl ?_
    refine A_bipush (v := 50) X dX10_throwsUntilSuspicious_22 (by decide) ?_
    refine A_icmp_gt (tgt := 74) X dX10_throwsUntilSuspicious_24 h (by decide) (fun hc h => ?_) (fun hc h => ?_)
    · refine A_iconst (v := (-1)) X dX10_throwsUntilSuspicious_74 (by decide) ?_
      cases h
      exact A_iretX X dX10_throwsUntilSuspicious_75 hr ⟨_, rfl, rfl, g16, g17, (fun q z0 z1 => (hfr q z0 z1)), rfl⟩ (Nat.le_of_ble_eq_true rfl) (Nat.le_of_ble_eq_true rfl)
    · refine A_aload_n X dX10_throwsUntilSuspicious_27 0 rfl ?_
      refine A_get X dX10_throwsUntilSuspicious_28 kcl_X10 3 (by decide) kw_654 g0 rfl ?_
      refine A_aload_n X dX10_throwsUntilSuspicious_31 0 rfl ?_
      refine A_get X dX10_throwsUntilSuspicious_32 kcl_X10 4 (by decide) kw_655 g0 rfl ?_
      obtain ⟨t3, hct3, h⟩ := bind_o h
      refine A_cp (k' := 2) (n' := 12) (A_runV (rest := [.ref (x + 3)]) X dX10_throwsUntilSuspicious_35 (c_X1_made g16 g17  hct3) kY_X1_made kw_1297 g16 rfl rfl ⟨(Nat.le_of_ble_eq_true rfl), (Nat.le_of_ble_eq_true rfl), (Nat.le_of_ble_eq_true rfl), (Nat.le_of_ble_eq_true rfl)⟩ rfl (Nat.le_of_ble_eq_true rfl)) rfl rfl ?_
      refine A_aload_n X dX10_throwsUntilSuspicious_38 0 rfl ?_
      refine A_get X dX10_throwsUntilSuspicious_39 kcl_X10 4 (by decide) kw_655 g0 rfl ?_
      refine A_aload_n X dX10_throwsUntilSuspicious_42 0 rfl ?_
      refine A_get X dX10_throwsUntilSuspicious_43 kcl_X10 3 (by decide) kw_654 g0 rfl ?_
      obtain ⟨t4, hct4, h⟩ := bind_o h
      refine A_cp (k' := 2) (n' := 12) (A_runV (rest := [.int t3, .ref (x + 3)]) X dX10_throwsUntilSuspicious_46 (c_X1_presentScore g16 g17 g3 g4 g5  hct4) kY_X1_presentScore kw_1284 g16 rfl rfl ⟨(Nat.le_of_ble_eq_true rfl), (Nat.le_of_ble_eq_true rfl), (Nat.le_of_ble_eq_true rfl), (Nat.le_of_ble_eq_true rfl)⟩ rfl (Nat.le_of_ble_eq_true rfl)) rfl rfl ?_
      obtain ⟨t5, hct5, h⟩ := bind_o h
      refine A_c (k' := 2) (n' := 12) rfl rfl (A_runV (rest := []) X dX10_throwsUntilSuspicious_49 (c_X2_exceedsLimits g3  hct5) kY_X2_exceedsLimits kw_1302 g3 rfl rfl ⟨(Nat.le_of_ble_eq_true rfl), (Nat.le_of_ble_eq_true rfl), (Nat.le_of_ble_eq_true rfl), (Nat.le_of_ble_eq_true rfl)⟩ rfl (Nat.le_of_ble_eq_true rfl)) (fun v9 hp1 al9 hP => ?_)
      obtain ⟨rfl, zt5, rfl, rfl⟩ := hP
      refine A_st (st' := [.int t5]) rfl ?_
      refine A_if_eq (tgt := 57) X dX10_throwsUntilSuspicious_52 h (by decide) (fun hc h => ?_) (fun hc h => ?_)
      · refine A_aload_n X dX10_throwsUntilSuspicious_57 0 rfl ?_
        refine A_get X dX10_throwsUntilSuspicious_58 kcl_X10 4 (by decide) kw_655 g0 rfl ?_
        refine A_aload_n X dX10_throwsUntilSuspicious_61 0 rfl ?_
        refine A_get X dX10_throwsUntilSuspicious_62 kcl_X10 3 (by decide) kw_654 g0 rfl ?_
        obtain ⟨t6, hct6, h⟩ := bind_o h
        refine A_c (k' := 2) (n' := 12) rfl rfl (A_runV (rest := []) X dX10_throwsUntilSuspicious_65 (c_X1_throwOnce g16 g17 g3 g4 g5 g6 (by omega) hct6) kY_X1_throwOnce kw_1278 g16 rfl rfl ⟨(Nat.le_of_ble_eq_true rfl), (Nat.le_of_ble_eq_true rfl), (Nat.le_of_ble_eq_true rfl), (Nat.le_of_ble_eq_true rfl)⟩ rfl (Nat.le_of_ble_eq_true rfl)) (fun v9 hp1 al9 hP => ?_)
        obtain ⟨rfl, k1_0, k1_1, n1, rfl⟩ := hP
        replace k1_0 : hp1 (x + 16) = some (.inr (1, [.ref (x + 17), .int fd, .int t6.1])) := k1_0
        replace k1_1 : hp1 (x + 17) = some (.inl (kC E 0, 12, .inl t6.2)) := k1_1
        refine A_st (st' := []) rfl ?_
        refine A_iinc (j := 1) (v := (l3 + 1)) (L' := [(3, .int (l3 + 1)), (0, .ref x)]) X dX10_throwsUntilSuspicious_68 rfl rfl (by decide) rfl ?_
        refine A_goto (tgt := 21) X dX10_throwsUntilSuspicious_71 (by decide) ?_
        refine A_sub (L' := [(0, .ref x), (3, .int (l3 + 1))]) [1, 0] rfl ?_
        exact i21 ((n1 _ (by omega) (by omega)).trans g0) ((n1 _ (by omega) (by omega)).trans g3) ((n1 _ (by omega) (by omega)).trans g4) ((n1 _ (by omega) (by omega)).trans g5) ((n1 _ (by omega) (by omega)).trans g6) ((n1 _ (by omega) (by omega)).trans g7) ((n1 _ (by omega) (by omega)).trans g10) ((n1 _ (by omega) (by omega)).trans g12) k1_0 k1_1 (fun q z0 z1 => ((n1 q z0 z1).trans (hfr q z0 z1))) h
      · refine A_iload_n X dX10_throwsUntilSuspicious_55 1 rfl ?_
        cases h
        exact A_iretX X dX10_throwsUntilSuspicious_56 hr ⟨_, rfl, rfl, g16, g17, (fun q z0 z1 => (hfr q z0 z1)), rfl⟩ (Nat.le_of_ble_eq_true rfl) (Nat.le_of_ble_eq_true rfl)
def f_X10_throwsUntilSuspicious (N : Nat) (sd : Int32) (mn : Int32) (th : Int32) (dc : Int32) (fc : Nat → Int32) (dw : Nat → Int32) (pc : Int32) (fr : Nat → Int32) (fd : Int32) (fs : Int32) (ff : Nat → Int32) (a0 : Int32) (a1 : Int32) : Option (String ⊕ (Int32 × Int32 × Int32 × (Nat → Int32))) :=
  sbd (f_X10_requirePair dc pc a0 a1) fun t1 =>
  (f_X1_begin N sd fr fd fs ff a0 a1).bind fun t2 =>
  f_X10_throwsUntilSuspicious_L21 N sd mn th dc fc dw pc fr N 0 t2.1 t2.2.1 t2.2.2
set_option maxHeartbeats 4000000 in
set_option maxRecDepth 100000 in
theorem c_X10_throwsUntilSuspicious {E : KE} {l : Launch} {hp : Hp} {al : Option Nat} {N : Nat} {x : Nat} {sd : Int32} {mn : Int32} {th : Int32} {dc : Int32} {fc : Nat → Int32} {dw : Nat → Int32} {pc : Int32} {tc : Int32} {fr : Nat → Int32} {fd : Int32} {fs : Int32} {ff : Nat → Int32} {a0 : Int32} {a1 : Int32} {out : String ⊕ (Int32 × Int32 × Int32 × (Nat → Int32))} (g0 : hp x = some (.inr (10, [.ref (x + 126), .ref (x + 128), .ref (x + 1), .ref (x + 3), .ref (x + 16), .ref (x + 18), .ref (x + 124), .ref (x + 125)]))) (g3 : hp (x + 3) = some (.inr (2, [.ref (x + 4), .ref (x + 7), .ref (x + 10), .ref (x + 13), .int sd, .int mn, .int th]))) (g4 : hp (x + 4) = some (.inr (0, [.ref (x + 5), .ref (x + 6), .int dc]))) (g5 : hp (x + 5) = some (.inl (kC E 0, 6, .inl fc))) (g6 : hp (x + 6) = some (.inl (kC E 0, 72, .inl dw))) (g7 : hp (x + 7) = some (.inr (7, [.ref (x + 8), .ref (x + 9), .int pc]))) (g10 : hp (x + 10) = some (.inr (4, [.ref (x + 11), .ref (x + 12), .int tc]))) (g12 : hp (x + 12) = some (.inl (kC E 0, 432, .inl fr))) (g16 : hp (x + 16) = some (.inr (1, [.ref (x + 17), .int fd, .int fs]))) (g17 : hp (x + 17) = some (.inl (kC E 0, 12, .inl ff)))  (h : f_X10_throwsUntilSuspicious N sd mn th dc fc dw pc fr fd fs ff a0 a1 = some out) : AX E l yX10_throwsUntilSuspicious cX10_throwsUntilSuspicious 4 (Option.some Jvm.ClassFile.FieldType.int) ⟨9, 2, 12, 146⟩ [.ref x, .int a0, .int a1] hp al (P_X10_throwsUntilSuspicious E x hp al out) (kThr out hp) := by
  refine A_ofX (by decide +kernel) (Nat.le_of_ble_eq_true rfl) ?_
  intro p e s m args below meth c X hr htb
  have X : CX E p l s m args meth c "DiceAudit" cX10_throwsUntilSuspicious 4 := X
  refine A_L (L' := [(0, .ref x), (1, .int a0), (2, .int a1)]) rfl ?_
  unfold f_X10_throwsUntilSuspicious at h
  refine A_aload_n X dX10_throwsUntilSuspicious_0 0 rfl ?_
  refine A_iload_n X dX10_throwsUntilSuspicious_1 1 rfl ?_
  refine A_iload_n X dX10_throwsUntilSuspicious_2 2 rfl ?_
  rcases sbd_o h with ⟨c9, hc9, rfl⟩ | ⟨t1, hct1, h⟩
  · exact A_cX (k' := 2) (n' := 12) rfl rfl (A_runVX (rest := []) X dX10_throwsUntilSuspicious_3 (c_X10_requirePair g0 g3 g4 g7  hc9) kY_X10_requirePair kw_1150 g0 rfl rfl ⟨(Nat.le_of_ble_eq_true rfl), (Nat.le_of_ble_eq_true rfl), (Nat.le_of_ble_eq_true rfl), (Nat.le_of_ble_eq_true rfl)⟩ rfl (Nat.le_of_ble_eq_true rfl)) (fun C hp1 hP => by obtain ⟨hC, rfl⟩ := hP; cases hC; exact A_out X htb ⟨rfl, rfl⟩ (Nat.le_of_ble_eq_true rfl) (Nat.le_of_ble_eq_true rfl)) (fun v hp1 al1 hP => by obtain ⟨u, hu, _⟩ := hP; cases hu)
  refine A_cX (k' := 2) (n' := 12) rfl rfl (A_runVX (rest := []) X dX10_throwsUntilSuspicious_3 (c_X10_requirePair g0 g3 g4 g7  hct1) kY_X10_requirePair kw_1150 g0 rfl rfl ⟨(Nat.le_of_ble_eq_true rfl), (Nat.le_of_ble_eq_true rfl), (Nat.le_of_ble_eq_true rfl), (Nat.le_of_ble_eq_true rfl)⟩ rfl (Nat.le_of_ble_eq_true rfl)) (fun C hp1 hP => by obtain ⟨hC, _⟩ := hP; cases hC) (fun v9 hp1 al9 hP => ?_)
  obtain ⟨u9, hu9, rfl, rfl, rfl⟩ := hP
  cases hu9
  refine A_st (st' := []) rfl ?_
  refine A_aload_n X dX10_throwsUntilSuspicious_6 0 rfl ?_
  refine A_get X dX10_throwsUntilSuspicious_7 kcl_X10 4 (by decide) kw_655 g0 rfl ?_
  refine A_aload_n X dX10_throwsUntilSuspicious_10 0 rfl ?_
  refine A_get X dX10_throwsUntilSuspicious_11 kcl_X10 3 (by decide) kw_654 g0 rfl ?_
  refine A_iload_n X dX10_throwsUntilSuspicious_14 1 rfl ?_
  refine A_iload_n X dX10_throwsUntilSuspicious_15 2 rfl ?_
  obtain ⟨t2, hct2, h⟩ := bind_o h
  refine A_c (k' := 2) (n' := 12) rfl rfl (A_runV (rest := []) X dX10_throwsUntilSuspicious_16 (c_X1_begin g16 g17 g3 g10 g12 (by omega) hct2) kY_X1_begin kw_1270 g16 rfl rfl ⟨(Nat.le_of_ble_eq_true rfl), (Nat.le_of_ble_eq_true rfl), (Nat.le_of_ble_eq_true rfl), (Nat.le_of_ble_eq_true rfl)⟩ rfl (Nat.le_of_ble_eq_true rfl)) (fun v9 hp1 al9 hP => ?_)
  obtain ⟨rfl, k1_0, k1_1, n1, rfl⟩ := hP
  replace k1_0 : hp1 (x + 16) = some (.inr (1, [.ref (x + 17), .int t2.1, .int t2.2.1])) := k1_0
  replace k1_1 : hp1 (x + 17) = some (.inl (kC E 0, 12, .inl t2.2.2)) := k1_1
  refine A_st (st' := []) rfl ?_
  refine A_iconst (v := 0) X dX10_throwsUntilSuspicious_19 (by decide) ?_
  refine A_istore_n (L' := [(3, .int 0), (0, .ref x), (1, .int a0), (2, .int a1)]) X dX10_throwsUntilSuspicious_20 rfl (by decide) rfl ?_
  refine A_sub (L' := [(0, .ref x), (3, .int 0)]) [1, 0] rfl ?_
  exact c_X10_throwsUntilSuspicious_L21 X hr htb  N ((n1 _ (by omega) (by omega)).trans g0) ((n1 _ (by omega) (by omega)).trans g3) ((n1 _ (by omega) (by omega)).trans g4) ((n1 _ (by omega) (by omega)).trans g5) ((n1 _ (by omega) (by omega)).trans g6) ((n1 _ (by omega) (by omega)).trans g7) ((n1 _ (by omega) (by omega)).trans g10) ((n1 _ (by omega) (by omega)).trans g12) k1_0 k1_1 (fun q z0 z1 => (n1 q z0 z1)) h
def f_X10_penanceNow (N : Nat) (fr : Nat → Int32) (oc : Int32) (op : Nat → Int32) (os : Nat → Int32)  : Option (Int32) :=
  (f_X2_penanceSize N fr oc op os).bind fun t1 =>
  some t1
set_option maxHeartbeats 4000000 in
set_option maxRecDepth 100000 in
theorem c_X10_penanceNow {E : KE} {l : Launch} {hp : Hp} {al : Option Nat} {N : Nat} {x : Nat} {sd : Int32} {mn : Int32} {th : Int32} {tc : Int32} {fr : Nat → Int32} {oc : Int32} {op : Nat → Int32} {os : Nat → Int32}  {out : Int32} (g0 : hp x = some (.inr (10, [.ref (x + 126), .ref (x + 128), .ref (x + 1), .ref (x + 3), .ref (x + 16), .ref (x + 18), .ref (x + 124), .ref (x + 125)]))) (g3 : hp (x + 3) = some (.inr (2, [.ref (x + 4), .ref (x + 7), .ref (x + 10), .ref (x + 13), .int sd, .int mn, .int th]))) (g10 : hp (x + 10) = some (.inr (4, [.ref (x + 11), .ref (x + 12), .int tc]))) (g12 : hp (x + 12) = some (.inl (kC E 0, 432, .inl fr))) (g13 : hp (x + 13) = some (.inr (6, [.ref (x + 14), .ref (x + 15), .int oc]))) (g14 : hp (x + 14) = some (.inl (kC E 0, 36, .inl op))) (g15 : hp (x + 15) = some (.inl (kC E 0, 36, .inl os)))  (h : f_X10_penanceNow N fr oc op os = some out) : AM E l yX10_penanceNow cX10_penanceNow 1 (Option.some Jvm.ClassFile.FieldType.int) ⟨3, 0, 0, 66⟩ [.ref x] hp al (kRet out hp al) := by
  refine A_of (by decide +kernel) (Nat.le_of_ble_eq_true rfl) ?_
  intro p e s m args below meth c X hr hnm
  have X : CX E p l s m args meth c "DiceAudit" cX10_penanceNow 1 := X
  refine A_L (L' := [(0, .ref x)]) rfl ?_
  unfold f_X10_penanceNow at h
  refine A_aload_n X dX10_penanceNow_0 0 rfl ?_
  refine A_get X dX10_penanceNow_1 kcl_X10 3 (by decide) kw_654 g0 rfl ?_
  obtain ⟨t1, hct1, h⟩ := bind_o h
  refine A_cp (k' := 0) (n' := 0) (A_runV (rest := []) X dX10_penanceNow_4 (c_X2_penanceSize g3 g10 g12 g13 g14 g15  hct1) kY_X2_penanceSize kw_744 g3 rfl rfl ⟨(Nat.le_of_ble_eq_true rfl), (Nat.le_of_ble_eq_true rfl), (Nat.le_of_ble_eq_true rfl), (Nat.le_of_ble_eq_true rfl)⟩ rfl (Nat.le_of_ble_eq_true rfl)) rfl rfl ?_
  cases h
  exact A_iret X dX10_penanceNow_7 hr ⟨rfl, rfl, rfl⟩ (Nat.le_of_ble_eq_true rfl) (Nat.le_of_ble_eq_true rfl)
def f_X10_frequencyDifference (N : Nat) (tc : Int32) (fr : Nat → Int32)  : Option (Int32) :=
  (f_X4_frequencySum N fr).bind fun t1 =>
  some (t1 - tc)
set_option maxHeartbeats 4000000 in
set_option maxRecDepth 100000 in
theorem c_X10_frequencyDifference {E : KE} {l : Launch} {hp : Hp} {al : Option Nat} {N : Nat} {x : Nat} {sd : Int32} {mn : Int32} {th : Int32} {tc : Int32} {fr : Nat → Int32}  {out : Int32} (g0 : hp x = some (.inr (10, [.ref (x + 126), .ref (x + 128), .ref (x + 1), .ref (x + 3), .ref (x + 16), .ref (x + 18), .ref (x + 124), .ref (x + 125)]))) (g3 : hp (x + 3) = some (.inr (2, [.ref (x + 4), .ref (x + 7), .ref (x + 10), .ref (x + 13), .int sd, .int mn, .int th]))) (g10 : hp (x + 10) = some (.inr (4, [.ref (x + 11), .ref (x + 12), .int tc]))) (g12 : hp (x + 12) = some (.inl (kC E 0, 432, .inl fr)))  (h : f_X10_frequencyDifference N tc fr = some out) : AM E l yX10_frequencyDifference cX10_frequencyDifference 1 (Option.some Jvm.ClassFile.FieldType.int) ⟨2, 0, 0, 45⟩ [.ref x] hp al (kRet out hp al) := by
  refine A_of (by decide +kernel) (Nat.le_of_ble_eq_true rfl) ?_
  intro p e s m args below meth c X hr hnm
  have X : CX E p l s m args meth c "DiceAudit" cX10_frequencyDifference 1 := X
  refine A_L (L' := [(0, .ref x)]) rfl ?_
  unfold f_X10_frequencyDifference at h
  refine A_aload_n X dX10_frequencyDifference_0 0 rfl ?_
  refine A_get X dX10_frequencyDifference_1 kcl_X10 3 (by decide) kw_654 g0 rfl ?_
  refine A_get X dX10_frequencyDifference_4 kcl_X2 2 (by decide) kw_148 g3 rfl ?_
  obtain ⟨t1, hct1, h⟩ := bind_o h
  refine A_cp (k' := 0) (n' := 0) (A_runV (rest := []) X dX10_frequencyDifference_7 (c_X4_frequencySum g10 g12  hct1) kY_X4_frequencySum kw_749 g10 rfl rfl ⟨(Nat.le_of_ble_eq_true rfl), (Nat.le_of_ble_eq_true rfl), (Nat.le_of_ble_eq_true rfl), (Nat.le_of_ble_eq_true rfl)⟩ rfl (Nat.le_of_ble_eq_true rfl)) rfl rfl ?_
  refine A_aload_n X dX10_frequencyDifference_10 0 rfl ?_
  refine A_get X dX10_frequencyDifference_11 kcl_X10 3 (by decide) kw_654 g0 rfl ?_
  refine A_get X dX10_frequencyDifference_14 kcl_X2 2 (by decide) kw_148 g3 rfl ?_
  refine A_get X dX10_frequencyDifference_17 kcl_X4 2 (by decide) kw_107 g10 rfl ?_
  refine A_isub X dX10_frequencyDifference_20 ?_
  cases h
  exact A_iret X dX10_frequencyDifference_21 hr ⟨rfl, rfl, rfl⟩ (Nat.le_of_ble_eq_true rfl) (Nat.le_of_ble_eq_true rfl)
def f_X10_totalDifference_L4_F (N : Nat) (pc : Int32) (tc : Int32) (en : Nat → Int32) (fr : Nat → Int32)  (r4 : Int32 → Int32 → Option (Int32)) (l1 : Int32) (l2 : Int32) : Option (Int32) :=
  if pc ≤ l2 then
    (f_X4_faceSum N tc en).bind fun t1 =>
    some (l1 - t1)
  else
    (f_X4_playerTotal N fr l2).bind fun t2 =>
    r4 (l1 + t2) (l2 + 1)
def f_X10_totalDifference_L4 (N : Nat) (pc : Int32) (tc : Int32) (en : Nat → Int32) (fr : Nat → Int32)  : Nat → Int32 → Int32 → Option (Int32)
  | 0 => fun _ _ => none
  | j + 1 => f_X10_totalDifference_L4_F N pc tc en fr (f_X10_totalDifference_L4 N pc tc en fr j)
set_option maxHeartbeats 4000000 in
set_option maxRecDepth 100000 in
theorem c_X10_totalDifference_L4 {E : KE} {p : Program} {l : Launch} {e : Env} {s : State} {m : MethodId} {args : Array Value} {below : List Frame} {meth : Method} {c : Code} {al : Option Nat} {N : Nat} {x : Nat} {sd : Int32} {mn : Int32} {th : Int32} {pc : Int32} {tc : Int32} {en : Nat → Int32} {fr : Nat → Int32} {hp0 : Hp} {out : Int32}  (X : CX E p l s m args meth c "DiceAudit" cX10_totalDifference 3) (hr : meth.sig.returnType = (Option.some Jvm.ClassFile.FieldType.int))  (g0 : hp0 x = some (.inr (10, [.ref (x + 126), .ref (x + 128), .ref (x + 1), .ref (x + 3), .ref (x + 16), .ref (x + 18), .ref (x + 124), .ref (x + 125)]))) (g3 : hp0 (x + 3) = some (.inr (2, [.ref (x + 4), .ref (x + 7), .ref (x + 10), .ref (x + 13), .int sd, .int mn, .int th]))) (g7 : hp0 (x + 7) = some (.inr (7, [.ref (x + 8), .ref (x + 9), .int pc]))) (g10 : hp0 (x + 10) = some (.inr (4, [.ref (x + 11), .ref (x + 12), .int tc]))) (g11 : hp0 (x + 11) = some (.inl (kC E 0, 300, .inl en))) (g12 : hp0 (x + 12) = some (.inl (kC E 0, 432, .inl fr))) : ∀ (j : Nat), ∀ {l1 : Int32} {l2 : Int32}, f_X10_totalDifference_L4 N pc tc en fr j l1 l2 = some out → AW E p l e ⟨3, 0, 0, 64⟩ s m args below meth c 3 (MQ below (kQc E (kRet out hp0 al)) args s 0 0 (kA E)) hp0 al 0 0 4 [(0, .ref x), (1, .int l1), (2, .int l2)] [] := by
  intro j
  induction j with
  | zero =>
    intro l1 l2 h
    have h : (none : Option (Int32)) = some out := h
    cases h
  | succ j i4 =>
    intro l1 l2 h
    have h : f_X10_totalDifference_L4_F N pc tc en fr (f_X10_totalDifference_L4 N pc tc en fr j) l1 l2 = some out := h
    unfold f_X10_totalDifference_L4_F at h
    refine A_iload_n X dX10_totalDifference_4 2 rfl ?_
    refine A_aload_n X dX10_totalDifference_5 0 rfl ?_
    refine A_get X dX10_totalDifference_6 kcl_X10 3 (by decide) kw_654 g0 rfl ?_
    refine A_get X dX10_totalDifference_9 kcl_X2 1 (by decide) kw_145 g3 rfl ?_
    refine A_get X dX10_totalDifference_12 kcl_X7 2 (by decide) kw_86 g7 rfl ?_
    refine A_icmp_ge (tgt := 38) X dX10_totalDifference_15 h (by decide) (fun hc h => ?_) (fun hc h => ?_)
    · refine A_iload_n X dX10_totalDifference_38 1 rfl ?_
      refine A_aload_n X dX10_totalDifference_39 0 rfl ?_
      refine A_get X dX10_totalDifference_40 kcl_X10 3 (by decide) kw_654 g0 rfl ?_
      refine A_get X dX10_totalDifference_43 kcl_X2 2 (by decide) kw_148 g3 rfl ?_
      obtain ⟨t1, hct1, h⟩ := bind_o h
      refine A_cp (k' := 0) (n' := 0) (A_runV (rest := [.int l1]) X dX10_totalDifference_46 (c_X4_faceSum g10 g11  hct1) kY_X4_faceSum kw_762 g10 rfl rfl ⟨(Nat.le_of_ble_eq_true rfl), (Nat.le_of_ble_eq_true rfl), (Nat.le_of_ble_eq_true rfl), (Nat.le_of_ble_eq_true rfl)⟩ rfl (Nat.le_of_ble_eq_true rfl)) rfl rfl ?_
      refine A_isub X dX10_totalDifference_49 ?_
      cases h
      exact A_iret X dX10_totalDifference_50 hr ⟨rfl, rfl, rfl⟩ (Nat.le_of_ble_eq_true rfl) (Nat.le_of_ble_eq_true rfl)
    · refine A_iload_n X dX10_totalDifference_18 1 rfl ?_
      refine A_aload_n X dX10_totalDifference_19 0 rfl ?_
      refine A_get X dX10_totalDifference_20 kcl_X10 3 (by decide) kw_654 g0 rfl ?_
      refine A_get X dX10_totalDifference_23 kcl_X2 2 (by decide) kw_148 g3 rfl ?_
      refine A_iload_n X dX10_totalDifference_26 2 rfl ?_
      obtain ⟨t2, hct2, h⟩ := bind_o h
      refine A_cp (k' := 0) (n' := 0) (A_runV (rest := [.int l1]) X dX10_totalDifference_27 (c_X4_playerTotal g10 g12  hct2) kY_X4_playerTotal kw_757 g10 rfl rfl ⟨(Nat.le_of_ble_eq_true rfl), (Nat.le_of_ble_eq_true rfl), (Nat.le_of_ble_eq_true rfl), (Nat.le_of_ble_eq_true rfl)⟩ rfl (Nat.le_of_ble_eq_true rfl)) rfl rfl ?_
      refine A_iadd X dX10_totalDifference_30 ?_
      refine A_istore_n (L' := [(1, .int (l1 + t2)), (0, .ref x), (2, .int l2)]) X dX10_totalDifference_31 rfl (by decide) rfl ?_
      refine A_iinc (j := 2) (v := (l2 + 1)) (L' := [(2, .int (l2 + 1)), (1, .int (l1 + t2)), (0, .ref x)]) X dX10_totalDifference_32 rfl rfl (by decide) rfl ?_
      refine A_goto (tgt := 4) X dX10_totalDifference_35 (by decide) ?_
      refine A_sub (L' := [(0, .ref x), (1, .int (l1 + t2)), (2, .int (l2 + 1))]) [2, 1, 0] rfl ?_
      exact i4  h
def f_X10_totalDifference (N : Nat) (pc : Int32) (tc : Int32) (en : Nat → Int32) (fr : Nat → Int32)  : Option (Int32) :=
  f_X10_totalDifference_L4 N pc tc en fr N 0 0
set_option maxHeartbeats 4000000 in
set_option maxRecDepth 100000 in
theorem c_X10_totalDifference {E : KE} {l : Launch} {hp : Hp} {al : Option Nat} {N : Nat} {x : Nat} {sd : Int32} {mn : Int32} {th : Int32} {pc : Int32} {tc : Int32} {en : Nat → Int32} {fr : Nat → Int32}  {out : Int32} (g0 : hp x = some (.inr (10, [.ref (x + 126), .ref (x + 128), .ref (x + 1), .ref (x + 3), .ref (x + 16), .ref (x + 18), .ref (x + 124), .ref (x + 125)]))) (g3 : hp (x + 3) = some (.inr (2, [.ref (x + 4), .ref (x + 7), .ref (x + 10), .ref (x + 13), .int sd, .int mn, .int th]))) (g7 : hp (x + 7) = some (.inr (7, [.ref (x + 8), .ref (x + 9), .int pc]))) (g10 : hp (x + 10) = some (.inr (4, [.ref (x + 11), .ref (x + 12), .int tc]))) (g11 : hp (x + 11) = some (.inl (kC E 0, 300, .inl en))) (g12 : hp (x + 12) = some (.inl (kC E 0, 432, .inl fr)))  (h : f_X10_totalDifference N pc tc en fr = some out) : AM E l yX10_totalDifference cX10_totalDifference 3 (Option.some Jvm.ClassFile.FieldType.int) ⟨3, 0, 0, 64⟩ [.ref x] hp al (kRet out hp al) := by
  refine A_of (by decide +kernel) (Nat.le_of_ble_eq_true rfl) ?_
  intro p e s m args below meth c X hr hnm
  have X : CX E p l s m args meth c "DiceAudit" cX10_totalDifference 3 := X
  refine A_L (L' := [(0, .ref x)]) rfl ?_
  unfold f_X10_totalDifference at h
  refine A_iconst (v := 0) X dX10_totalDifference_0 (by decide) ?_
  refine A_istore_n (L' := [(1, .int 0), (0, .ref x)]) X dX10_totalDifference_1 rfl (by decide) rfl ?_
  refine A_iconst (v := 0) X dX10_totalDifference_2 (by decide) ?_
  refine A_istore_n (L' := [(2, .int 0), (1, .int 0), (0, .ref x)]) X dX10_totalDifference_3 rfl (by decide) rfl ?_
  refine A_sub (L' := [(0, .ref x), (1, .int 0), (2, .int 0)]) [2, 1, 0] rfl ?_
  exact c_X10_totalDifference_L4 X hr g0 g3 g7 g10 g11 g12 N  h
abbrev P_X10_fairShare (E : KE) (x : Nat)  (hp : Hp) (al : Option Nat) (out : UInt32) : Option Value → Hp → Option Nat → Prop := fun v0 hp' al' => v0 = some (.float out) ∧ hp = hp' ∧ al = al'
def f_X10_fairShare (N : Nat) (tc : Int32) (en : Nat → Int32)  : Option (UInt32) :=
  if tc = 0 then
    some FP.fconst0
  else
    (f_X4_markedThrows N tc en).bind fun t1 =>
    gd (isn32 (FP.fdiv (FP.i2f t1) (FP.i2f tc))) <|
    some (FP.fdiv (FP.i2f t1) (FP.i2f tc))
set_option maxHeartbeats 4000000 in
set_option maxRecDepth 100000 in
theorem c_X10_fairShare {E : KE} {l : Launch} {hp : Hp} {al : Option Nat} {N : Nat} {x : Nat} {sd : Int32} {mn : Int32} {th : Int32} {tc : Int32} {en : Nat → Int32}  {out : UInt32} (g0 : hp x = some (.inr (10, [.ref (x + 126), .ref (x + 128), .ref (x + 1), .ref (x + 3), .ref (x + 16), .ref (x + 18), .ref (x + 124), .ref (x + 125)]))) (g3 : hp (x + 3) = some (.inr (2, [.ref (x + 4), .ref (x + 7), .ref (x + 10), .ref (x + 13), .int sd, .int mn, .int th]))) (g10 : hp (x + 10) = some (.inr (4, [.ref (x + 11), .ref (x + 12), .int tc]))) (g11 : hp (x + 11) = some (.inl (kC E 0, 300, .inl en)))  (h : f_X10_fairShare N tc en = some out) : AM E l yX10_fairShare cX10_fairShare 2 (Option.some Jvm.ClassFile.FieldType.float) ⟨3, 0, 0, 64⟩ [.ref x] hp al (P_X10_fairShare E x hp al out) := by
  refine A_of (by decide +kernel) (Nat.le_of_ble_eq_true rfl) ?_
  intro p e s m args below meth c X hr hnm
  have X : CX E p l s m args meth c "DiceAudit" cX10_fairShare 2 := X
  refine A_L (L' := [(0, .ref x)]) rfl ?_
  unfold f_X10_fairShare at h
  refine A_aload_n X dX10_fairShare_0 0 rfl ?_
  refine A_get X dX10_fairShare_1 kcl_X10 3 (by decide) kw_654 g0 rfl ?_
  refine A_get X dX10_fairShare_4 kcl_X2 2 (by decide) kw_148 g3 rfl ?_
  refine A_get X dX10_fairShare_7 kcl_X4 2 (by decide) kw_107 g10 rfl ?_
  refine A_istore_n (L' := [(1, .int tc), (0, .ref x)]) X dX10_fairShare_10 rfl (by decide) rfl ?_
  refine A_iload_n X dX10_fairShare_11 0 rfl ?_
  refine A_if_ne (tgt := 17) X dX10_fairShare_12 h (by decide) (fun hc h => ?_) (fun hc h => ?_)
  · refine A_aload_n X dX10_fairShare_17 1 rfl ?_
    refine A_get X dX10_fairShare_18 kcl_X10 3 (by decide) kw_654 g0 rfl ?_
    refine A_get X dX10_fairShare_21 kcl_X2 2 (by decide) kw_148 g3 rfl ?_
    obtain ⟨t1, hct1, h⟩ := bind_o h
    refine A_cp (k' := 0) (n' := 0) (A_runV (rest := []) X dX10_fairShare_24 (c_X4_markedThrows g10 g11  hct1) kY_X4_markedThrows kw_770 g10 rfl rfl ⟨(Nat.le_of_ble_eq_true rfl), (Nat.le_of_ble_eq_true rfl), (Nat.le_of_ble_eq_true rfl), (Nat.le_of_ble_eq_true rfl)⟩ rfl (Nat.le_of_ble_eq_true rfl)) rfl rfl ?_
    refine A_i2f X dX10_fairShare_27 ?_
    refine A_iload_n X dX10_fairShare_28 0 rfl ?_
    refine A_i2f X dX10_fairShare_29 ?_
    obtain ⟨hq, h⟩ := gd_o h
    refine A_fdiv X dX10_fairShare_30 (isn32_o hq) ?_
    cases h
    exact A_fret X dX10_fairShare_31 hr ⟨rfl, rfl, rfl⟩ (Nat.le_of_ble_eq_true rfl) (Nat.le_of_ble_eq_true rfl)
  · refine A_fconst0 X dX10_fairShare_15 ?_
    cases h
    exact A_fret X dX10_fairShare_16 hr ⟨rfl, rfl, rfl⟩ (Nat.le_of_ble_eq_true rfl) (Nat.le_of_ble_eq_true rfl)
abbrev P_X10_throwDie (E : KE) (x : Nat) (v : Nat) (mn : Int32) (th : Int32) (hp : Hp) (al : Option Nat) (out : String ⊕ (Int32 × Int32 × Int32 × (Nat → Int32) × (Nat → Int32) × Int32 × Int32 × Int32 × Int32 × Int32 × Int32 × (Nat → Int32) × (Nat → Int32) × Int32 × (Nat → Int32) × (Nat → Int32) × Int32 × (Nat → Int32) × (Nat → Int32) × Int32 × (Nat → Int32) × (Nat → Int32))) : Option Value → Hp → Option Nat → Prop := fun v0 hp' al' => ∃ u, out = .inr u ∧ v0 = some (.int u.1) ∧ hp' (x + 3) = some (.inr (2, [.ref (x + 4), .ref (x + 7), .ref (x + 10), .ref (x + 13), .int u.2.1, .int mn, .int th])) ∧ hp' (x + 10) = some (.inr (4, [.ref (x + 11), .ref (x + 12), .int u.2.2.1])) ∧ hp' (x + 11) = some (.inl (kC E 0, 300, .inl u.2.2.2.1)) ∧ hp' (x + 12) = some (.inl (kC E 0, 432, .inl u.2.2.2.2.1)) ∧ hp' (x + 18) = some (.inr (3, [.ref (x + 19), .int u.2.2.2.2.2.1, .int u.2.2.2.2.2.2.1])) ∧ hp' v = some (.inr (2, [.ref (v + 1), .ref (v + 4), .ref (v + 7), .ref (v + 10), .int u.2.2.2.2.2.2.2.1, .int u.2.2.2.2.2.2.2.2.1, .int u.2.2.2.2.2.2.2.2.2.1])) ∧ hp' (v + 1) = some (.inr (0, [.ref (v + 2), .ref (v + 3), .int u.2.2.2.2.2.2.2.2.2.2.1])) ∧ hp' (v + 2) = some (.inl (kC E 0, 6, .inl u.2.2.2.2.2.2.2.2.2.2.2.1)) ∧ hp' (v + 3) = some (.inl (kC E 0, 72, .inl u.2.2.2.2.2.2.2.2.2.2.2.2.1)) ∧ hp' (v + 4) = some (.inr (7, [.ref (v + 5), .ref (v + 6), .int u.2.2.2.2.2.2.2.2.2.2.2.2.2.1])) ∧ hp' (v + 5) = some (.inl (kC E 0, 6, .inl u.2.2.2.2.2.2.2.2.2.2.2.2.2.2.1)) ∧ hp' (v + 6) = some (.inl (kC E 0, 24, .inl u.2.2.2.2.2.2.2.2.2.2.2.2.2.2.2.1)) ∧ hp' (v + 7) = some (.inr (4, [.ref (v + 8), .ref (v + 9), .int u.2.2.2.2.2.2.2.2.2.2.2.2.2.2.2.2.1])) ∧ hp' (v + 8) = some (.inl (kC E 0, 300, .inl u.2.2.2.2.2.2.2.2.2.2.2.2.2.2.2.2.2.1)) ∧ hp' (v + 9) = some (.inl (kC E 0, 432, .inl u.2.2.2.2.2.2.2.2.2.2.2.2.2.2.2.2.2.2.1)) ∧ hp' (v + 10) = some (.inr (6, [.ref (v + 11), .ref (v + 12), .int u.2.2.2.2.2.2.2.2.2.2.2.2.2.2.2.2.2.2.2.1])) ∧ hp' (v + 11) = some (.inl (kC E 0, 36, .inl u.2.2.2.2.2.2.2.2.2.2.2.2.2.2.2.2.2.2.2.2.1)) ∧ hp' (v + 12) = some (.inl (kC E 0, 36, .inl u.2.2.2.2.2.2.2.2.2.2.2.2.2.2.2.2.2.2.2.2.2)) ∧ (∀ q, q ≠ (x + 3) → q ≠ (x + 10) → q ≠ (x + 11) → q ≠ (x + 12) → q ≠ (x + 18) → q ≠ v → q ≠ (v + 1) → q ≠ (v + 2) → q ≠ (v + 3) → q ≠ (v + 4) → q ≠ (v + 5) → q ≠ (v + 6) → q ≠ (v + 7) → q ≠ (v + 8) → q ≠ (v + 9) → q ≠ (v + 10) → q ≠ (v + 11) → q ≠ (v + 12) → hp' q = hp q) ∧ al = al'
def f_X10_throwDie (N : Nat) (mn : Int32) (th : Int32) (dc : Int32) (fc : Nat → Int32) (dw : Nat → Int32) (pc : Int32) (ln : Nat → Int32) (lt : Nat → Int32) (oc : Int32) (op : Nat → Int32) (os : Nat → Int32) (sd : Int32) (tc : Int32) (en : Nat → Int32) (fr : Nat → Int32) (nx : Int32) (dp : Int32) (v_sd : Int32) (v_mn : Int32) (v_th : Int32) (v_dc : Int32) (v_fc : Nat → Int32) (v_dw : Nat → Int32) (v_pc : Int32) (v_ln : Nat → Int32) (v_lt : Nat → Int32) (v_tc : Int32) (v_en : Nat → Int32) (v_fr : Nat → Int32) (v_oc : Int32) (v_op : Nat → Int32) (v_os : Nat → Int32) (a0 : Int32) (a1 : Int32) (a2 : Int32) : Option (String ⊕ (Int32 × Int32 × Int32 × (Nat → Int32) × (Nat → Int32) × Int32 × Int32 × Int32 × Int32 × Int32 × Int32 × (Nat → Int32) × (Nat → Int32) × Int32 × (Nat → Int32) × (Nat → Int32) × Int32 × (Nat → Int32) × (Nat → Int32) × Int32 × (Nat → Int32) × (Nat → Int32))) :=
  sbd (f_X10_requirePair dc pc a0 a1) fun t1 =>
  sbd (f_X10_requireRange a2 1 50) fun t2 =>
  if (tc + a2) ≤ 300 then
    (f_X3_remember sd mn th dc fc dw pc ln lt tc en fr oc op os nx dp v_sd v_mn v_th v_dc v_fc v_dw v_pc v_ln v_lt v_tc v_en v_fr v_oc v_op v_os).bind fun t3 =>
    (f_X10_pairOf a0 a1).bind fun t4 =>
    (f_X2_makeThrows N fc dw sd tc en fr t4 a2 0).bind fun t5 =>
    some (.inr (t5.1, t5.2.1, t5.2.2.1, t5.2.2.2.1, t5.2.2.2.2, t3.1, t3.2.1, t3.2.2.1, t3.2.2.2.1, t3.2.2.2.2.1, t3.2.2.2.2.2.1, t3.2.2.2.2.2.2.1, t3.2.2.2.2.2.2.2.1, t3.2.2.2.2.2.2.2.2.1, t3.2.2.2.2.2.2.2.2.2.1, t3.2.2.2.2.2.2.2.2.2.2.1, t3.2.2.2.2.2.2.2.2.2.2.2.1, t3.2.2.2.2.2.2.2.2.2.2.2.2.1, t3.2.2.2.2.2.2.2.2.2.2.2.2.2.1, t3.2.2.2.2.2.2.2.2.2.2.2.2.2.2.1, t3.2.2.2.2.2.2.2.2.2.2.2.2.2.2.2.1, t3.2.2.2.2.2.2.2.2.2.2.2.2.2.2.2.2))
  else
    some (.inl "java/lang/IllegalStateException")
set_option maxHeartbeats 4000000 in
set_option maxRecDepth 100000 in
theorem c_X10_throwDie {E : KE} {l : Launch} {hp : Hp} {al : Option Nat} {N : Nat} {x : Nat} {v : Nat} {sd : Int32} {mn : Int32} {th : Int32} {dc : Int32} {fc : Nat → Int32} {dw : Nat → Int32} {pc : Int32} {ln : Nat → Int32} {lt : Nat → Int32} {tc : Int32} {en : Nat → Int32} {fr : Nat → Int32} {oc : Int32} {op : Nat → Int32} {os : Nat → Int32} {nx : Int32} {dp : Int32} {rws : Nat → Option Nat} {v_sd : Int32} {v_mn : Int32} {v_th : Int32} {v_dc : Int32} {v_fc : Nat → Int32} {v_dw : Nat → Int32} {v_pc : Int32} {v_ln : Nat → Int32} {v_lt : Nat → Int32} {v_tc : Int32} {v_en : Nat → Int32} {v_fr : Nat → Int32} {v_oc : Int32} {v_op : Nat → Int32} {v_os : Nat → Int32} {a0 : Int32} {a1 : Int32} {a2 : Int32} {out : String ⊕ (Int32 × Int32 × Int32 × (Nat → Int32) × (Nat → Int32) × Int32 × Int32 × Int32 × Int32 × Int32 × Int32 × (Nat → Int32) × (Nat → Int32) × Int32 × (Nat → Int32) × (Nat → Int32) × Int32 × (Nat → Int32) × (Nat → Int32) × Int32 × (Nat → Int32) × (Nat → Int32))} (g0 : hp x = some (.inr (10, [.ref (x + 126), .ref (x + 128), .ref (x + 1), .ref (x + 3), .ref (x + 16), .ref (x + 18), .ref (x + 124), .ref (x + 125)]))) (g3 : hp (x + 3) = some (.inr (2, [.ref (x + 4), .ref (x + 7), .ref (x + 10), .ref (x + 13), .int sd, .int mn, .int th]))) (g4 : hp (x + 4) = some (.inr (0, [.ref (x + 5), .ref (x + 6), .int dc]))) (g5 : hp (x + 5) = some (.inl (kC E 0, 6, .inl fc))) (g6 : hp (x + 6) = some (.inl (kC E 0, 72, .inl dw))) (g7 : hp (x + 7) = some (.inr (7, [.ref (x + 8), .ref (x + 9), .int pc]))) (g8 : hp (x + 8) = some (.inl (kC E 0, 6, .inl ln))) (g9 : hp (x + 9) = some (.inl (kC E 0, 24, .inl lt))) (g10 : hp (x + 10) = some (.inr (4, [.ref (x + 11), .ref (x + 12), .int tc]))) (g11 : hp (x + 11) = some (.inl (kC E 0, 300, .inl en))) (g12 : hp (x + 12) = some (.inl (kC E 0, 432, .inl fr))) (g13 : hp (x + 13) = some (.inr (6, [.ref (x + 14), .ref (x + 15), .int oc]))) (g14 : hp (x + 14) = some (.inl (kC E 0, 36, .inl op))) (g15 : hp (x + 15) = some (.inl (kC E 0, 36, .inl os))) (g18 : hp (x + 18) = some (.inr (3, [.ref (x + 19), .int nx, .int dp]))) (g19 : hp (x + 19) = some (.inl (kC E 5, 8, .inr (.inr (.inr (.inr rws)))))) (g39 : hp v = some (.inr (2, [.ref (v + 1), .ref (v + 4), .ref (v + 7), .ref (v + 10), .int v_sd, .int v_mn, .int v_th]))) (g40 : hp (v + 1) = some (.inr (0, [.ref (v + 2), .ref (v + 3), .int v_dc]))) (g41 : hp (v + 2) = some (.inl (kC E 0, 6, .inl v_fc))) (g42 : hp (v + 3) = some (.inl (kC E 0, 72, .inl v_dw))) (g43 : hp (v + 4) = some (.inr (7, [.ref (v + 5), .ref (v + 6), .int v_pc]))) (g44 : hp (v + 5) = some (.inl (kC E 0, 6, .inl v_ln))) (g45 : hp (v + 6) = some (.inl (kC E 0, 24, .inl v_lt))) (g46 : hp (v + 7) = some (.inr (4, [.ref (v + 8), .ref (v + 9), .int v_tc]))) (g47 : hp (v + 8) = some (.inl (kC E 0, 300, .inl v_en))) (g48 : hp (v + 9) = some (.inl (kC E 0, 432, .inl v_fr))) (g49 : hp (v + 10) = some (.inr (6, [.ref (v + 11), .ref (v + 12), .int v_oc]))) (g50 : hp (v + 11) = some (.inl (kC E 0, 36, .inl v_op))) (g51 : hp (v + 12) = some (.inl (kC E 0, 36, .inl v_os))) (hvv : rws (Int32.toNatClampNeg nx) = some v) (hlv : (x + 20) ≤ v) (huv : (v + 13) ≤ (x + 124)) (h : f_X10_throwDie N mn th dc fc dw pc ln lt oc op os sd tc en fr nx dp v_sd v_mn v_th v_dc v_fc v_dw v_pc v_ln v_lt v_tc v_en v_fr v_oc v_op v_os a0 a1 a2 = some out) : AX E l yX10_throwDie cX10_throwDie 4 (Option.some Jvm.ClassFile.FieldType.int) ⟨9, 4, 24, 146⟩ [.ref x, .int a0, .int a1, .int a2] hp al (P_X10_throwDie E x v mn th hp al out) (kThr out hp) := by
  refine A_ofX (by decide +kernel) (Nat.le_of_ble_eq_true rfl) ?_
  intro p e s m args below meth c X hr htb
  have X : CX E p l s m args meth c "DiceAudit" cX10_throwDie 4 := X
  refine A_L (L' := [(0, .ref x), (1, .int a0), (2, .int a1), (3, .int a2)]) rfl ?_
  unfold f_X10_throwDie at h
  refine A_aload_n X dX10_throwDie_0 0 rfl ?_
  refine A_iload_n X dX10_throwDie_1 1 rfl ?_
  refine A_iload_n X dX10_throwDie_2 2 rfl ?_
  rcases sbd_o h with ⟨c9, hc9, rfl⟩ | ⟨t1, hct1, h⟩
  · exact A_cX (k' := 2) (n' := 12) rfl rfl (A_runVX (rest := []) X dX10_throwDie_3 (c_X10_requirePair g0 g3 g4 g7  hc9) kY_X10_requirePair kw_1150 g0 rfl rfl ⟨(Nat.le_of_ble_eq_true rfl), (Nat.le_of_ble_eq_true rfl), (Nat.le_of_ble_eq_true rfl), (Nat.le_of_ble_eq_true rfl)⟩ rfl (Nat.le_of_ble_eq_true rfl)) (fun C hp1 hP => by obtain ⟨hC, rfl⟩ := hP; cases hC; exact A_out X htb ⟨rfl, rfl⟩ (Nat.le_of_ble_eq_true rfl) (Nat.le_of_ble_eq_true rfl)) (fun v hp1 al1 hP => by obtain ⟨u, hu, _⟩ := hP; cases hu)
  refine A_cX (k' := 2) (n' := 12) rfl rfl (A_runVX (rest := []) X dX10_throwDie_3 (c_X10_requirePair g0 g3 g4 g7  hct1) kY_X10_requirePair kw_1150 g0 rfl rfl ⟨(Nat.le_of_ble_eq_true rfl), (Nat.le_of_ble_eq_true rfl), (Nat.le_of_ble_eq_true rfl), (Nat.le_of_ble_eq_true rfl)⟩ rfl (Nat.le_of_ble_eq_true rfl)) (fun C hp1 hP => by obtain ⟨hC, _⟩ := hP; cases hC) (fun v9 hp1 al9 hP => ?_)
  obtain ⟨u9, hu9, rfl, rfl, rfl⟩ := hP
  cases hu9
  refine A_st (st' := []) rfl ?_
  refine A_iload_n X dX10_throwDie_6 3 rfl ?_
  refine A_iconst (v := 1) X dX10_throwDie_7 (by decide) ?_
  refine A_bipush (v := 50) X dX10_throwDie_8 (by decide) ?_
  rcases sbd_o h with ⟨c9, hc9, rfl⟩ | ⟨t2, hct2, h⟩
  · exact A_cX (k' := 3) (n' := 18) rfl rfl (A_runSX (rest := []) X dX10_throwDie_10 (c_X10_requireRange   hc9) kY_X10_requireRange kw_923 ⟨(Nat.le_of_ble_eq_true rfl), (Nat.le_of_ble_eq_true rfl), (Nat.le_of_ble_eq_true rfl), (Nat.le_of_ble_eq_true rfl)⟩ rfl (Nat.le_of_ble_eq_true rfl)) (fun C hp1 hP => by obtain ⟨hC, rfl⟩ := hP; cases hC; exact A_out X htb ⟨rfl, rfl⟩ (Nat.le_of_ble_eq_true rfl) (Nat.le_of_ble_eq_true rfl)) (fun v hp1 al1 hP => by obtain ⟨u, hu, _⟩ := hP; cases hu)
  refine A_cX (k' := 3) (n' := 18) rfl rfl (A_runSX (rest := []) X dX10_throwDie_10 (c_X10_requireRange   hct2) kY_X10_requireRange kw_923 ⟨(Nat.le_of_ble_eq_true rfl), (Nat.le_of_ble_eq_true rfl), (Nat.le_of_ble_eq_true rfl), (Nat.le_of_ble_eq_true rfl)⟩ rfl (Nat.le_of_ble_eq_true rfl)) (fun C hp1 hP => by obtain ⟨hC, _⟩ := hP; cases hC) (fun v9 hp1 al9 hP => ?_)
  obtain ⟨u9, hu9, rfl, rfl, rfl⟩ := hP
  cases hu9
  refine A_st (st' := []) rfl ?_
  refine A_aload_n X dX10_throwDie_13 0 rfl ?_
  refine A_get X dX10_throwDie_14 kcl_X10 3 (by decide) kw_654 g0 rfl ?_
  refine A_get X dX10_throwDie_17 kcl_X2 2 (by decide) kw_148 g3 rfl ?_
  refine A_get X dX10_throwDie_20 kcl_X4 2 (by decide) kw_107 g10 rfl ?_
  refine A_iload_n X dX10_throwDie_23 3 rfl ?_
  refine A_iadd X dX10_throwDie_24 ?_
  refine A_sipush (v := 300) X dX10_throwDie_25 (by decide) ?_
  refine A_icmp_le (tgt := 42) X dX10_throwDie_28 h (by decide) (fun hc h => ?_) (fun hc h => ?_)
  · refine A_aload_n X dX10_throwDie_42 0 rfl ?_
    refine A_get X dX10_throwDie_43 kcl_X10 5 (by decide) kw_656 g0 rfl ?_
    refine A_aload_n X dX10_throwDie_46 0 rfl ?_
    refine A_get X dX10_throwDie_47 kcl_X10 3 (by decide) kw_654 g0 rfl ?_
    obtain ⟨t3, hct3, h⟩ := bind_o h
    refine A_c (k' := 3) (n' := 18) rfl rfl (A_runV (rest := []) X dX10_throwDie_50 (c_X3_remember g18 g19 g3 g4 g5 g6 g7 g8 g9 g10 g11 g12 g13 g14 g15 g39 g40 g41 g42 g43 g44 g45 g46 g47 g48 g49 g50 g51 hvv (by omega) (by omega) (by omega) (by omega) hct3) kY_X3_remember kw_778 g18 rfl rfl ⟨(Nat.le_of_ble_eq_true rfl), (Nat.le_of_ble_eq_true rfl), (Nat.le_of_ble_eq_true rfl), (Nat.le_of_ble_eq_true rfl)⟩ rfl (Nat.le_of_ble_eq_true rfl)) (fun v9 hp1 al9 hP => ?_)
    obtain ⟨rfl, k1_0, k1_1, k1_2, k1_3, k1_4, k1_5, k1_6, k1_7, k1_8, k1_9, k1_10, k1_11, k1_12, k1_13, n1, rfl⟩ := hP
    replace k1_0 : hp1 (x + 18) = some (.inr (3, [.ref (x + 19), .int t3.1, .int t3.2.1])) := k1_0
    replace k1_1 : hp1 v = some (.inr (2, [.ref (v + 1), .ref (v + 4), .ref (v + 7), .ref (v + 10), .int t3.2.2.1, .int t3.2.2.2.1, .int t3.2.2.2.2.1])) := k1_1
    replace k1_2 : hp1 (v + 1) = some (.inr (0, [.ref (v + 2), .ref (v + 3), .int t3.2.2.2.2.2.1])) := k1_2
    replace k1_3 : hp1 (v + 2) = some (.inl (kC E 0, 6, .inl t3.2.2.2.2.2.2.1)) := k1_3
    replace k1_4 : hp1 (v + 3) = some (.inl (kC E 0, 72, .inl t3.2.2.2.2.2.2.2.1)) := k1_4
    replace k1_5 : hp1 (v + 4) = some (.inr (7, [.ref (v + 5), .ref (v + 6), .int t3.2.2.2.2.2.2.2.2.1])) := k1_5
    replace k1_6 : hp1 (v + 5) = some (.inl (kC E 0, 6, .inl t3.2.2.2.2.2.2.2.2.2.1)) := k1_6
    replace k1_7 : hp1 (v + 6) = some (.inl (kC E 0, 24, .inl t3.2.2.2.2.2.2.2.2.2.2.1)) := k1_7
    replace k1_8 : hp1 (v + 7) = some (.inr (4, [.ref (v + 8), .ref (v + 9), .int t3.2.2.2.2.2.2.2.2.2.2.2.1])) := k1_8
    replace k1_9 : hp1 (v + 8) = some (.inl (kC E 0, 300, .inl t3.2.2.2.2.2.2.2.2.2.2.2.2.1)) := k1_9
    replace k1_10 : hp1 (v + 9) = some (.inl (kC E 0, 432, .inl t3.2.2.2.2.2.2.2.2.2.2.2.2.2.1)) := k1_10
    replace k1_11 : hp1 (v + 10) = some (.inr (6, [.ref (v + 11), .ref (v + 12), .int t3.2.2.2.2.2.2.2.2.2.2.2.2.2.2.1])) := k1_11
    replace k1_12 : hp1 (v + 11) = some (.inl (kC E 0, 36, .inl t3.2.2.2.2.2.2.2.2.2.2.2.2.2.2.2.1)) := k1_12
    replace k1_13 : hp1 (v + 12) = some (.inl (kC E 0, 36, .inl t3.2.2.2.2.2.2.2.2.2.2.2.2.2.2.2.2)) := k1_13
    refine A_st (st' := []) rfl ?_
    refine A_aload_n X dX10_throwDie_53 0 rfl ?_
    refine A_get X dX10_throwDie_54 kcl_X10 3 (by decide) kw_654 ((n1 _ (by omega) (by omega) (by omega) (by omega) (by omega) (by omega) (by omega) (by omega) (by omega) (by omega) (by omega) (by omega) (by omega) (by omega)).trans g0) rfl ?_
    refine A_iload_n X dX10_throwDie_57 1 rfl ?_
    refine A_iload_n X dX10_throwDie_58 2 rfl ?_
    obtain ⟨t4, hct4, h⟩ := bind_o h
    refine A_cp (k' := 3) (n' := 18) (A_runS (rest := [.ref (x + 3)]) X dX10_throwDie_59 (c_X10_pairOf   hct4) kY_X10_pairOf kw_1154 ⟨(Nat.le_of_ble_eq_true rfl), (Nat.le_of_ble_eq_true rfl), (Nat.le_of_ble_eq_true rfl), (Nat.le_of_ble_eq_true rfl)⟩ rfl (Nat.le_of_ble_eq_true rfl)) rfl rfl ?_
    refine A_iload_n X dX10_throwDie_62 3 rfl ?_
    refine A_iconst (v := 0) X dX10_throwDie_63 (by decide) ?_
    obtain ⟨t5, hct5, h⟩ := bind_o h
    refine A_c (k' := 3) (n' := 18) rfl rfl (A_runV (rest := []) X dX10_throwDie_64 (c_X2_makeThrows ((n1 _ (by omega) (by omega) (by omega) (by omega) (by omega) (by omega) (by omega) (by omega) (by omega) (by omega) (by omega) (by omega) (by omega) (by omega)).trans g3) ((n1 _ (by omega) (by omega) (by omega) (by omega) (by omega) (by omega) (by omega) (by omega) (by omega) (by omega) (by omega) (by omega) (by omega) (by omega)).trans g4) ((n1 _ (by omega) (by omega) (by omega) (by omega) (by omega) (by omega) (by omega) (by omega) (by omega) (by omega) (by omega) (by omega) (by omega) (by omega)).trans g5) ((n1 _ (by omega) (by omega) (by omega) (by omega) (by omega) (by omega) (by omega) (by omega) (by omega) (by omega) (by omega) (by omega) (by omega) (by omega)).trans g6) ((n1 _ (by omega) (by omega) (by omega) (by omega) (by omega) (by omega) (by omega) (by omega) (by omega) (by omega) (by omega) (by omega) (by omega) (by omega)).trans g10) ((n1 _ (by omega) (by omega) (by omega) (by omega) (by omega) (by omega) (by omega) (by omega) (by omega) (by omega) (by omega) (by omega) (by omega) (by omega)).trans g11) ((n1 _ (by omega) (by omega) (by omega) (by omega) (by omega) (by omega) (by omega) (by omega) (by omega) (by omega) (by omega) (by omega) (by omega) (by omega)).trans g12)  hct5) kY_X2_makeThrows kw_1311 ((n1 _ (by omega) (by omega) (by omega) (by omega) (by omega) (by omega) (by omega) (by omega) (by omega) (by omega) (by omega) (by omega) (by omega) (by omega)).trans g3) rfl rfl ⟨(Nat.le_of_ble_eq_true rfl), (Nat.le_of_ble_eq_true rfl), (Nat.le_of_ble_eq_true rfl), (Nat.le_of_ble_eq_true rfl)⟩ rfl (Nat.le_of_ble_eq_true rfl)) (fun v9 hp2 al9 hP => ?_)
    obtain ⟨rfl, k2_0, k2_1, k2_2, k2_3, n2, rfl⟩ := hP
    replace k2_0 : hp2 (x + 3) = some (.inr (2, [.ref (x + 4), .ref (x + 7), .ref (x + 10), .ref (x + 13), .int t5.2.1, .int mn, .int th])) := k2_0
    replace k2_1 : hp2 (x + 10) = some (.inr (4, [.ref (x + 11), .ref (x + 12), .int t5.2.2.1])) := k2_1
    replace k2_2 : hp2 (x + 11) = some (.inl (kC E 0, 300, .inl t5.2.2.2.1)) := k2_2
    replace k2_3 : hp2 (x + 12) = some (.inl (kC E 0, 432, .inl t5.2.2.2.2)) := k2_3
    refine A_st (st' := [.int t5.1]) rfl ?_
    cases h
    exact A_iretX X dX10_throwDie_67 hr ⟨_, rfl, rfl, k2_0, k2_1, k2_2, k2_3, ((n2 _ (by omega) (by omega) (by omega) (by omega)).trans k1_0), ((n2 _ (by omega) (by omega) (by omega) (by omega)).trans k1_1), ((n2 _ (by omega) (by omega) (by omega) (by omega)).trans k1_2), ((n2 _ (by omega) (by omega) (by omega) (by omega)).trans k1_3), ((n2 _ (by omega) (by omega) (by omega) (by omega)).trans k1_4), ((n2 _ (by omega) (by omega) (by omega) (by omega)).trans k1_5), ((n2 _ (by omega) (by omega) (by omega) (by omega)).trans k1_6), ((n2 _ (by omega) (by omega) (by omega) (by omega)).trans k1_7), ((n2 _ (by omega) (by omega) (by omega) (by omega)).trans k1_8), ((n2 _ (by omega) (by omega) (by omega) (by omega)).trans k1_9), ((n2 _ (by omega) (by omega) (by omega) (by omega)).trans k1_10), ((n2 _ (by omega) (by omega) (by omega) (by omega)).trans k1_11), ((n2 _ (by omega) (by omega) (by omega) (by omega)).trans k1_12), ((n2 _ (by omega) (by omega) (by omega) (by omega)).trans k1_13), (fun q z0 z1 z2 z3 z4 z5 z6 z7 z8 z9 z10 z11 z12 z13 z14 z15 z16 z17 => ((n2 q z0 z1 z2 z3).trans (n1 q z4 z5 z6 z7 z8 z9 z10 z11 z12 z13 z14 z15 z16 z17))), rfl⟩ (Nat.le_of_ble_eq_true rfl) (Nat.le_of_ble_eq_true rfl)
  · cases h
    exact A_throwSW (names := ["java/lang/RuntimeException", "java/lang/Exception"]) X htb (by decide +kernel) (by decide +kernel) kw_843 kw_23 (List.mem_of_getElem? (i := 22) rfl) xa_X10_86 xg_X10_86 dX10_throwDie_31 dX10_throwDie_34 dX10_throwDie_35 dX10_throwDie_38 dX10_throwDie_41 (Nat.le_of_ble_eq_true rfl) (Nat.le_of_ble_eq_true rfl) (Nat.le_of_ble_eq_true rfl) (Nat.le_of_ble_eq_true rfl) ⟨rfl, rfl⟩ (Nat.le_of_ble_eq_true rfl) (Nat.le_of_ble_eq_true rfl)
abbrev P_X10_audit (E : KE) (x : Nat) (v : Nat)  (hp : Hp) (al : Option Nat) (out : Int32 × Int32 × (Nat → Int32) × (Nat → Int32) × Int32 × Int32 × Int32 × Int32 × Int32 × Int32 × (Nat → Int32) × (Nat → Int32) × Int32 × (Nat → Int32) × (Nat → Int32) × Int32 × (Nat → Int32) × (Nat → Int32) × Int32 × (Nat → Int32) × (Nat → Int32)) : Option Value → Hp → Option Nat → Prop := fun v0 hp' al' => v0 = some (.int out.1) ∧ hp' (x + 13) = some (.inr (6, [.ref (x + 14), .ref (x + 15), .int out.2.1])) ∧ hp' (x + 14) = some (.inl (kC E 0, 36, .inl out.2.2.1)) ∧ hp' (x + 15) = some (.inl (kC E 0, 36, .inl out.2.2.2.1)) ∧ hp' (x + 18) = some (.inr (3, [.ref (x + 19), .int out.2.2.2.2.1, .int out.2.2.2.2.2.1])) ∧ hp' v = some (.inr (2, [.ref (v + 1), .ref (v + 4), .ref (v + 7), .ref (v + 10), .int out.2.2.2.2.2.2.1, .int out.2.2.2.2.2.2.2.1, .int out.2.2.2.2.2.2.2.2.1])) ∧ hp' (v + 1) = some (.inr (0, [.ref (v + 2), .ref (v + 3), .int out.2.2.2.2.2.2.2.2.2.1])) ∧ hp' (v + 2) = some (.inl (kC E 0, 6, .inl out.2.2.2.2.2.2.2.2.2.2.1)) ∧ hp' (v + 3) = some (.inl (kC E 0, 72, .inl out.2.2.2.2.2.2.2.2.2.2.2.1)) ∧ hp' (v + 4) = some (.inr (7, [.ref (v + 5), .ref (v + 6), .int out.2.2.2.2.2.2.2.2.2.2.2.2.1])) ∧ hp' (v + 5) = some (.inl (kC E 0, 6, .inl out.2.2.2.2.2.2.2.2.2.2.2.2.2.1)) ∧ hp' (v + 6) = some (.inl (kC E 0, 24, .inl out.2.2.2.2.2.2.2.2.2.2.2.2.2.2.1)) ∧ hp' (v + 7) = some (.inr (4, [.ref (v + 8), .ref (v + 9), .int out.2.2.2.2.2.2.2.2.2.2.2.2.2.2.2.1])) ∧ hp' (v + 8) = some (.inl (kC E 0, 300, .inl out.2.2.2.2.2.2.2.2.2.2.2.2.2.2.2.2.1)) ∧ hp' (v + 9) = some (.inl (kC E 0, 432, .inl out.2.2.2.2.2.2.2.2.2.2.2.2.2.2.2.2.2.1)) ∧ hp' (v + 10) = some (.inr (6, [.ref (v + 11), .ref (v + 12), .int out.2.2.2.2.2.2.2.2.2.2.2.2.2.2.2.2.2.2.1])) ∧ hp' (v + 11) = some (.inl (kC E 0, 36, .inl out.2.2.2.2.2.2.2.2.2.2.2.2.2.2.2.2.2.2.2.1)) ∧ hp' (v + 12) = some (.inl (kC E 0, 36, .inl out.2.2.2.2.2.2.2.2.2.2.2.2.2.2.2.2.2.2.2.2)) ∧ (∀ q, q ≠ (x + 13) → q ≠ (x + 14) → q ≠ (x + 15) → q ≠ (x + 18) → q ≠ v → q ≠ (v + 1) → q ≠ (v + 2) → q ≠ (v + 3) → q ≠ (v + 4) → q ≠ (v + 5) → q ≠ (v + 6) → q ≠ (v + 7) → q ≠ (v + 8) → q ≠ (v + 9) → q ≠ (v + 10) → q ≠ (v + 11) → q ≠ (v + 12) → hp' q = hp q) ∧ al = al'
def f_X10_audit (N : Nat) (sd : Int32) (mn : Int32) (th : Int32) (dc : Int32) (fc : Nat → Int32) (dw : Nat → Int32) (pc : Int32) (ln : Nat → Int32) (lt : Nat → Int32) (tc : Int32) (en : Nat → Int32) (fr : Nat → Int32) (oc : Int32) (op : Nat → Int32) (os : Nat → Int32) (nx : Int32) (dp : Int32) (v_sd : Int32) (v_mn : Int32) (v_th : Int32) (v_dc : Int32) (v_fc : Nat → Int32) (v_dw : Nat → Int32) (v_pc : Int32) (v_ln : Nat → Int32) (v_lt : Nat → Int32) (v_tc : Int32) (v_en : Nat → Int32) (v_fr : Nat → Int32) (v_oc : Int32) (v_op : Nat → Int32) (v_os : Nat → Int32) : Option (Int32 × Int32 × (Nat → Int32) × (Nat → Int32) × Int32 × Int32 × Int32 × Int32 × Int32 × Int32 × (Nat → Int32) × (Nat → Int32) × Int32 × (Nat → Int32) × (Nat → Int32) × Int32 × (Nat → Int32) × (Nat → Int32) × Int32 × (Nat → Int32) × (Nat → Int32)) :=
  (f_X3_remember sd mn th dc fc dw pc ln lt tc en fr oc op os nx dp v_sd v_mn v_th v_dc v_fc v_dw v_pc v_ln v_lt v_tc v_en v_fr v_oc v_op v_os).bind fun t1 =>
  (f_X2_holdAudit N mn th fc fr oc op os).bind fun t2 =>
  some (t2.1, t2.2.1, t2.2.2.1, t2.2.2.2, t1.1, t1.2.1, t1.2.2.1, t1.2.2.2.1, t1.2.2.2.2.1, t1.2.2.2.2.2.1, t1.2.2.2.2.2.2.1, t1.2.2.2.2.2.2.2.1, t1.2.2.2.2.2.2.2.2.1, t1.2.2.2.2.2.2.2.2.2.1, t1.2.2.2.2.2.2.2.2.2.2.1, t1.2.2.2.2.2.2.2.2.2.2.2.1, t1.2.2.2.2.2.2.2.2.2.2.2.2.1, t1.2.2.2.2.2.2.2.2.2.2.2.2.2.1, t1.2.2.2.2.2.2.2.2.2.2.2.2.2.2.1, t1.2.2.2.2.2.2.2.2.2.2.2.2.2.2.2.1, t1.2.2.2.2.2.2.2.2.2.2.2.2.2.2.2.2)
set_option maxHeartbeats 4000000 in
set_option maxRecDepth 100000 in
theorem c_X10_audit {E : KE} {l : Launch} {hp : Hp} {al : Option Nat} {N : Nat} {x : Nat} {v : Nat} {sd : Int32} {mn : Int32} {th : Int32} {dc : Int32} {fc : Nat → Int32} {dw : Nat → Int32} {pc : Int32} {ln : Nat → Int32} {lt : Nat → Int32} {tc : Int32} {en : Nat → Int32} {fr : Nat → Int32} {oc : Int32} {op : Nat → Int32} {os : Nat → Int32} {nx : Int32} {dp : Int32} {rws : Nat → Option Nat} {v_sd : Int32} {v_mn : Int32} {v_th : Int32} {v_dc : Int32} {v_fc : Nat → Int32} {v_dw : Nat → Int32} {v_pc : Int32} {v_ln : Nat → Int32} {v_lt : Nat → Int32} {v_tc : Int32} {v_en : Nat → Int32} {v_fr : Nat → Int32} {v_oc : Int32} {v_op : Nat → Int32} {v_os : Nat → Int32}  {out : Int32 × Int32 × (Nat → Int32) × (Nat → Int32) × Int32 × Int32 × Int32 × Int32 × Int32 × Int32 × (Nat → Int32) × (Nat → Int32) × Int32 × (Nat → Int32) × (Nat → Int32) × Int32 × (Nat → Int32) × (Nat → Int32) × Int32 × (Nat → Int32) × (Nat → Int32)} (g0 : hp x = some (.inr (10, [.ref (x + 126), .ref (x + 128), .ref (x + 1), .ref (x + 3), .ref (x + 16), .ref (x + 18), .ref (x + 124), .ref (x + 125)]))) (g3 : hp (x + 3) = some (.inr (2, [.ref (x + 4), .ref (x + 7), .ref (x + 10), .ref (x + 13), .int sd, .int mn, .int th]))) (g4 : hp (x + 4) = some (.inr (0, [.ref (x + 5), .ref (x + 6), .int dc]))) (g5 : hp (x + 5) = some (.inl (kC E 0, 6, .inl fc))) (g6 : hp (x + 6) = some (.inl (kC E 0, 72, .inl dw))) (g7 : hp (x + 7) = some (.inr (7, [.ref (x + 8), .ref (x + 9), .int pc]))) (g8 : hp (x + 8) = some (.inl (kC E 0, 6, .inl ln))) (g9 : hp (x + 9) = some (.inl (kC E 0, 24, .inl lt))) (g10 : hp (x + 10) = some (.inr (4, [.ref (x + 11), .ref (x + 12), .int tc]))) (g11 : hp (x + 11) = some (.inl (kC E 0, 300, .inl en))) (g12 : hp (x + 12) = some (.inl (kC E 0, 432, .inl fr))) (g13 : hp (x + 13) = some (.inr (6, [.ref (x + 14), .ref (x + 15), .int oc]))) (g14 : hp (x + 14) = some (.inl (kC E 0, 36, .inl op))) (g15 : hp (x + 15) = some (.inl (kC E 0, 36, .inl os))) (g18 : hp (x + 18) = some (.inr (3, [.ref (x + 19), .int nx, .int dp]))) (g19 : hp (x + 19) = some (.inl (kC E 5, 8, .inr (.inr (.inr (.inr rws)))))) (g39 : hp v = some (.inr (2, [.ref (v + 1), .ref (v + 4), .ref (v + 7), .ref (v + 10), .int v_sd, .int v_mn, .int v_th]))) (g40 : hp (v + 1) = some (.inr (0, [.ref (v + 2), .ref (v + 3), .int v_dc]))) (g41 : hp (v + 2) = some (.inl (kC E 0, 6, .inl v_fc))) (g42 : hp (v + 3) = some (.inl (kC E 0, 72, .inl v_dw))) (g43 : hp (v + 4) = some (.inr (7, [.ref (v + 5), .ref (v + 6), .int v_pc]))) (g44 : hp (v + 5) = some (.inl (kC E 0, 6, .inl v_ln))) (g45 : hp (v + 6) = some (.inl (kC E 0, 24, .inl v_lt))) (g46 : hp (v + 7) = some (.inr (4, [.ref (v + 8), .ref (v + 9), .int v_tc]))) (g47 : hp (v + 8) = some (.inl (kC E 0, 300, .inl v_en))) (g48 : hp (v + 9) = some (.inl (kC E 0, 432, .inl v_fr))) (g49 : hp (v + 10) = some (.inr (6, [.ref (v + 11), .ref (v + 12), .int v_oc]))) (g50 : hp (v + 11) = some (.inl (kC E 0, 36, .inl v_op))) (g51 : hp (v + 12) = some (.inl (kC E 0, 36, .inl v_os))) (hvv : rws (Int32.toNatClampNeg nx) = some v) (hlv : (x + 20) ≤ v) (huv : (v + 13) ≤ (x + 124)) (h : f_X10_audit N sd mn th dc fc dw pc ln lt tc en fr oc op os nx dp v_sd v_mn v_th v_dc v_fc v_dw v_pc v_ln v_lt v_tc v_en v_fr v_oc v_op v_os = some out) : AM E l yX10_audit cX10_audit 1 (Option.some Jvm.ClassFile.FieldType.int) ⟨5, 0, 0, 102⟩ [.ref x] hp al (P_X10_audit E x v hp al out) := by
  refine A_of (by decide +kernel) (Nat.le_of_ble_eq_true rfl) ?_
  intro p e s m args below meth c X hr hnm
  have X : CX E p l s m args meth c "DiceAudit" cX10_audit 1 := X
  refine A_L (L' := [(0, .ref x)]) rfl ?_
  unfold f_X10_audit at h
  refine A_aload_n X dX10_audit_0 0 rfl ?_
  refine A_get X dX10_audit_1 kcl_X10 5 (by decide) kw_656 g0 rfl ?_
  refine A_aload_n X dX10_audit_4 0 rfl ?_
  refine A_get X dX10_audit_5 kcl_X10 3 (by decide) kw_654 g0 rfl ?_
  obtain ⟨t1, hct1, h⟩ := bind_o h
  refine A_c (k' := 0) (n' := 0) rfl rfl (A_runV (rest := []) X dX10_audit_8 (c_X3_remember g18 g19 g3 g4 g5 g6 g7 g8 g9 g10 g11 g12 g13 g14 g15 g39 g40 g41 g42 g43 g44 g45 g46 g47 g48 g49 g50 g51 hvv (by omega) (by omega) (by omega) (by omega) hct1) kY_X3_remember kw_778 g18 rfl rfl ⟨(Nat.le_of_ble_eq_true rfl), (Nat.le_of_ble_eq_true rfl), (Nat.le_of_ble_eq_true rfl), (Nat.le_of_ble_eq_true rfl)⟩ rfl (Nat.le_of_ble_eq_true rfl)) (fun v9 hp1 al9 hP => ?_)
  obtain ⟨rfl, k1_0, k1_1, k1_2, k1_3, k1_4, k1_5, k1_6, k1_7, k1_8, k1_9, k1_10, k1_11, k1_12, k1_13, n1, rfl⟩ := hP
  replace k1_0 : hp1 (x + 18) = some (.inr (3, [.ref (x + 19), .int t1.1, .int t1.2.1])) := k1_0
  replace k1_1 : hp1 v = some (.inr (2, [.ref (v + 1), .ref (v + 4), .ref (v + 7), .ref (v + 10), .int t1.2.2.1, .int t1.2.2.2.1, .int t1.2.2.2.2.1])) := k1_1
  replace k1_2 : hp1 (v + 1) = some (.inr (0, [.ref (v + 2), .ref (v + 3), .int t1.2.2.2.2.2.1])) := k1_2
  replace k1_3 : hp1 (v + 2) = some (.inl (kC E 0, 6, .inl t1.2.2.2.2.2.2.1)) := k1_3
  replace k1_4 : hp1 (v + 3) = some (.inl (kC E 0, 72, .inl t1.2.2.2.2.2.2.2.1)) := k1_4
  replace k1_5 : hp1 (v + 4) = some (.inr (7, [.ref (v + 5), .ref (v + 6), .int t1.2.2.2.2.2.2.2.2.1])) := k1_5
  replace k1_6 : hp1 (v + 5) = some (.inl (kC E 0, 6, .inl t1.2.2.2.2.2.2.2.2.2.1)) := k1_6
  replace k1_7 : hp1 (v + 6) = some (.inl (kC E 0, 24, .inl t1.2.2.2.2.2.2.2.2.2.2.1)) := k1_7
  replace k1_8 : hp1 (v + 7) = some (.inr (4, [.ref (v + 8), .ref (v + 9), .int t1.2.2.2.2.2.2.2.2.2.2.2.1])) := k1_8
  replace k1_9 : hp1 (v + 8) = some (.inl (kC E 0, 300, .inl t1.2.2.2.2.2.2.2.2.2.2.2.2.1)) := k1_9
  replace k1_10 : hp1 (v + 9) = some (.inl (kC E 0, 432, .inl t1.2.2.2.2.2.2.2.2.2.2.2.2.2.1)) := k1_10
  replace k1_11 : hp1 (v + 10) = some (.inr (6, [.ref (v + 11), .ref (v + 12), .int t1.2.2.2.2.2.2.2.2.2.2.2.2.2.2.1])) := k1_11
  replace k1_12 : hp1 (v + 11) = some (.inl (kC E 0, 36, .inl t1.2.2.2.2.2.2.2.2.2.2.2.2.2.2.2.1)) := k1_12
  replace k1_13 : hp1 (v + 12) = some (.inl (kC E 0, 36, .inl t1.2.2.2.2.2.2.2.2.2.2.2.2.2.2.2.2)) := k1_13
  refine A_st (st' := []) rfl ?_
  refine A_aload_n X dX10_audit_11 0 rfl ?_
  refine A_get X dX10_audit_12 kcl_X10 3 (by decide) kw_654 ((n1 _ (by omega) (by omega) (by omega) (by omega) (by omega) (by omega) (by omega) (by omega) (by omega) (by omega) (by omega) (by omega) (by omega) (by omega)).trans g0) rfl ?_
  obtain ⟨t2, hct2, h⟩ := bind_o h
  refine A_c (k' := 0) (n' := 0) rfl rfl (A_runV (rest := []) X dX10_audit_15 (c_X2_holdAudit ((n1 _ (by omega) (by omega) (by omega) (by omega) (by omega) (by omega) (by omega) (by omega) (by omega) (by omega) (by omega) (by omega) (by omega) (by omega)).trans g3) ((n1 _ (by omega) (by omega) (by omega) (by omega) (by omega) (by omega) (by omega) (by omega) (by omega) (by omega) (by omega) (by omega) (by omega) (by omega)).trans g4) ((n1 _ (by omega) (by omega) (by omega) (by omega) (by omega) (by omega) (by omega) (by omega) (by omega) (by omega) (by omega) (by omega) (by omega) (by omega)).trans g5) ((n1 _ (by omega) (by omega) (by omega) (by omega) (by omega) (by omega) (by omega) (by omega) (by omega) (by omega) (by omega) (by omega) (by omega) (by omega)).trans g10) ((n1 _ (by omega) (by omega) (by omega) (by omega) (by omega) (by omega) (by omega) (by omega) (by omega) (by omega) (by omega) (by omega) (by omega) (by omega)).trans g12) ((n1 _ (by omega) (by omega) (by omega) (by omega) (by omega) (by omega) (by omega) (by omega) (by omega) (by omega) (by omega) (by omega) (by omega) (by omega)).trans g13) ((n1 _ (by omega) (by omega) (by omega) (by omega) (by omega) (by omega) (by omega) (by omega) (by omega) (by omega) (by omega) (by omega) (by omega) (by omega)).trans g14) ((n1 _ (by omega) (by omega) (by omega) (by omega) (by omega) (by omega) (by omega) (by omega) (by omega) (by omega) (by omega) (by omega) (by omega) (by omega)).trans g15)  hct2) kY_X2_holdAudit kw_784 ((n1 _ (by omega) (by omega) (by omega) (by omega) (by omega) (by omega) (by omega) (by omega) (by omega) (by omega) (by omega) (by omega) (by omega) (by omega)).trans g3) rfl rfl ⟨(Nat.le_of_ble_eq_true rfl), (Nat.le_of_ble_eq_true rfl), (Nat.le_of_ble_eq_true rfl), (Nat.le_of_ble_eq_true rfl)⟩ rfl (Nat.le_of_ble_eq_true rfl)) (fun v9 hp2 al9 hP => ?_)
  obtain ⟨rfl, k2_0, k2_1, k2_2, n2, rfl⟩ := hP
  replace k2_0 : hp2 (x + 13) = some (.inr (6, [.ref (x + 14), .ref (x + 15), .int t2.2.1])) := k2_0
  replace k2_1 : hp2 (x + 14) = some (.inl (kC E 0, 36, .inl t2.2.2.1)) := k2_1
  replace k2_2 : hp2 (x + 15) = some (.inl (kC E 0, 36, .inl t2.2.2.2)) := k2_2
  refine A_st (st' := [.int t2.1]) rfl ?_
  cases h
  exact A_iret X dX10_audit_18 hr ⟨rfl, k2_0, k2_1, k2_2, ((n2 _ (by omega) (by omega) (by omega)).trans k1_0), ((n2 _ (by omega) (by omega) (by omega)).trans k1_1), ((n2 _ (by omega) (by omega) (by omega)).trans k1_2), ((n2 _ (by omega) (by omega) (by omega)).trans k1_3), ((n2 _ (by omega) (by omega) (by omega)).trans k1_4), ((n2 _ (by omega) (by omega) (by omega)).trans k1_5), ((n2 _ (by omega) (by omega) (by omega)).trans k1_6), ((n2 _ (by omega) (by omega) (by omega)).trans k1_7), ((n2 _ (by omega) (by omega) (by omega)).trans k1_8), ((n2 _ (by omega) (by omega) (by omega)).trans k1_9), ((n2 _ (by omega) (by omega) (by omega)).trans k1_10), ((n2 _ (by omega) (by omega) (by omega)).trans k1_11), ((n2 _ (by omega) (by omega) (by omega)).trans k1_12), ((n2 _ (by omega) (by omega) (by omega)).trans k1_13), (fun q z0 z1 z2 z3 z4 z5 z6 z7 z8 z9 z10 z11 z12 z13 z14 z15 z16 => ((n2 q z0 z1 z2).trans (n1 q z3 z4 z5 z6 z7 z8 z9 z10 z11 z12 z13 z14 z15 z16))), rfl⟩ (Nat.le_of_ble_eq_true rfl) (Nat.le_of_ble_eq_true rfl)
abbrev P_X10_absolve (E : KE) (x : Nat) (v : Nat) (mn : Int32) (th : Int32) (hp : Hp) (al : Option Nat) (out : String ⊕ (Int32 × Int32 × Int32 × (Nat → Int32) × (Nat → Int32) × Int32 × (Nat → Int32) × (Nat → Int32) × Int32 × Int32 × Int32 × Int32 × Int32 × Int32 × (Nat → Int32) × (Nat → Int32) × Int32 × (Nat → Int32) × (Nat → Int32) × Int32 × (Nat → Int32) × (Nat → Int32) × Int32 × (Nat → Int32) × (Nat → Int32))) : Option Value → Hp → Option Nat → Prop := fun v0 hp' al' => ∃ u, out = .inr u ∧ v0 = some (.int u.1) ∧ hp' (x + 3) = some (.inr (2, [.ref (x + 4), .ref (x + 7), .ref (x + 10), .ref (x + 13), .int u.2.1, .int mn, .int th])) ∧ hp' (x + 10) = some (.inr (4, [.ref (x + 11), .ref (x + 12), .int u.2.2.1])) ∧ hp' (x + 11) = some (.inl (kC E 0, 300, .inl u.2.2.2.1)) ∧ hp' (x + 12) = some (.inl (kC E 0, 432, .inl u.2.2.2.2.1)) ∧ hp' (x + 13) = some (.inr (6, [.ref (x + 14), .ref (x + 15), .int u.2.2.2.2.2.1])) ∧ hp' (x + 14) = some (.inl (kC E 0, 36, .inl u.2.2.2.2.2.2.1)) ∧ hp' (x + 15) = some (.inl (kC E 0, 36, .inl u.2.2.2.2.2.2.2.1)) ∧ hp' (x + 18) = some (.inr (3, [.ref (x + 19), .int u.2.2.2.2.2.2.2.2.1, .int u.2.2.2.2.2.2.2.2.2.1])) ∧ hp' v = some (.inr (2, [.ref (v + 1), .ref (v + 4), .ref (v + 7), .ref (v + 10), .int u.2.2.2.2.2.2.2.2.2.2.1, .int u.2.2.2.2.2.2.2.2.2.2.2.1, .int u.2.2.2.2.2.2.2.2.2.2.2.2.1])) ∧ hp' (v + 1) = some (.inr (0, [.ref (v + 2), .ref (v + 3), .int u.2.2.2.2.2.2.2.2.2.2.2.2.2.1])) ∧ hp' (v + 2) = some (.inl (kC E 0, 6, .inl u.2.2.2.2.2.2.2.2.2.2.2.2.2.2.1)) ∧ hp' (v + 3) = some (.inl (kC E 0, 72, .inl u.2.2.2.2.2.2.2.2.2.2.2.2.2.2.2.1)) ∧ hp' (v + 4) = some (.inr (7, [.ref (v + 5), .ref (v + 6), .int u.2.2.2.2.2.2.2.2.2.2.2.2.2.2.2.2.1])) ∧ hp' (v + 5) = some (.inl (kC E 0, 6, .inl u.2.2.2.2.2.2.2.2.2.2.2.2.2.2.2.2.2.1)) ∧ hp' (v + 6) = some (.inl (kC E 0, 24, .inl u.2.2.2.2.2.2.2.2.2.2.2.2.2.2.2.2.2.2.1)) ∧ hp' (v + 7) = some (.inr (4, [.ref (v + 8), .ref (v + 9), .int u.2.2.2.2.2.2.2.2.2.2.2.2.2.2.2.2.2.2.2.1])) ∧ hp' (v + 8) = some (.inl (kC E 0, 300, .inl u.2.2.2.2.2.2.2.2.2.2.2.2.2.2.2.2.2.2.2.2.1)) ∧ hp' (v + 9) = some (.inl (kC E 0, 432, .inl u.2.2.2.2.2.2.2.2.2.2.2.2.2.2.2.2.2.2.2.2.2.1)) ∧ hp' (v + 10) = some (.inr (6, [.ref (v + 11), .ref (v + 12), .int u.2.2.2.2.2.2.2.2.2.2.2.2.2.2.2.2.2.2.2.2.2.2.1])) ∧ hp' (v + 11) = some (.inl (kC E 0, 36, .inl u.2.2.2.2.2.2.2.2.2.2.2.2.2.2.2.2.2.2.2.2.2.2.2.1)) ∧ hp' (v + 12) = some (.inl (kC E 0, 36, .inl u.2.2.2.2.2.2.2.2.2.2.2.2.2.2.2.2.2.2.2.2.2.2.2.2)) ∧ (∀ q, q ≠ (x + 3) → q ≠ (x + 10) → q ≠ (x + 11) → q ≠ (x + 12) → q ≠ (x + 13) → q ≠ (x + 14) → q ≠ (x + 15) → q ≠ (x + 18) → q ≠ v → q ≠ (v + 1) → q ≠ (v + 2) → q ≠ (v + 3) → q ≠ (v + 4) → q ≠ (v + 5) → q ≠ (v + 6) → q ≠ (v + 7) → q ≠ (v + 8) → q ≠ (v + 9) → q ≠ (v + 10) → q ≠ (v + 11) → q ≠ (v + 12) → hp' q = hp q) ∧ al = al'
def f_X10_absolve (N : Nat) (mn : Int32) (th : Int32) (dc : Int32) (fc : Nat → Int32) (dw : Nat → Int32) (pc : Int32) (ln : Nat → Int32) (lt : Nat → Int32) (sd : Int32) (tc : Int32) (en : Nat → Int32) (fr : Nat → Int32) (oc : Int32) (op : Nat → Int32) (os : Nat → Int32) (nx : Int32) (dp : Int32) (v_sd : Int32) (v_mn : Int32) (v_th : Int32) (v_dc : Int32) (v_fc : Nat → Int32) (v_dw : Nat → Int32) (v_pc : Int32) (v_ln : Nat → Int32) (v_lt : Nat → Int32) (v_tc : Int32) (v_en : Nat → Int32) (v_fr : Nat → Int32) (v_oc : Int32) (v_op : Nat → Int32) (v_os : Nat → Int32) : Option (String ⊕ (Int32 × Int32 × Int32 × (Nat → Int32) × (Nat → Int32) × Int32 × (Nat → Int32) × (Nat → Int32) × Int32 × Int32 × Int32 × Int32 × Int32 × Int32 × (Nat → Int32) × (Nat → Int32) × Int32 × (Nat → Int32) × (Nat → Int32) × Int32 × (Nat → Int32) × (Nat → Int32) × Int32 × (Nat → Int32) × (Nat → Int32))) :=
  if oc = 0 then
    some (.inl "java/lang/IllegalStateException")
  else
    (f_X3_remember sd mn th dc fc dw pc ln lt tc en fr oc op os nx dp v_sd v_mn v_th v_dc v_fc v_dw v_pc v_ln v_lt v_tc v_en v_fr v_oc v_op v_os).bind fun t1 =>
    (f_X2_doPenance N fc dw sd tc en fr oc op os).bind fun t2 =>
    some (.inr (t2.1, t2.2.1, t2.2.2.1, t2.2.2.2.1, t2.2.2.2.2.1, t2.2.2.2.2.2.1, t2.2.2.2.2.2.2.1, t2.2.2.2.2.2.2.2, t1.1, t1.2.1, t1.2.2.1, t1.2.2.2.1, t1.2.2.2.2.1, t1.2.2.2.2.2.1, t1.2.2.2.2.2.2.1, t1.2.2.2.2.2.2.2.1, t1.2.2.2.2.2.2.2.2.1, t1.2.2.2.2.2.2.2.2.2.1, t1.2.2.2.2.2.2.2.2.2.2.1, t1.2.2.2.2.2.2.2.2.2.2.2.1, t1.2.2.2.2.2.2.2.2.2.2.2.2.1, t1.2.2.2.2.2.2.2.2.2.2.2.2.2.1, t1.2.2.2.2.2.2.2.2.2.2.2.2.2.2.1, t1.2.2.2.2.2.2.2.2.2.2.2.2.2.2.2.1, t1.2.2.2.2.2.2.2.2.2.2.2.2.2.2.2.2))
set_option maxHeartbeats 4000000 in
set_option maxRecDepth 100000 in
theorem c_X10_absolve {E : KE} {l : Launch} {hp : Hp} {al : Option Nat} {N : Nat} {x : Nat} {v : Nat} {sd : Int32} {mn : Int32} {th : Int32} {dc : Int32} {fc : Nat → Int32} {dw : Nat → Int32} {pc : Int32} {ln : Nat → Int32} {lt : Nat → Int32} {tc : Int32} {en : Nat → Int32} {fr : Nat → Int32} {oc : Int32} {op : Nat → Int32} {os : Nat → Int32} {nx : Int32} {dp : Int32} {rws : Nat → Option Nat} {v_sd : Int32} {v_mn : Int32} {v_th : Int32} {v_dc : Int32} {v_fc : Nat → Int32} {v_dw : Nat → Int32} {v_pc : Int32} {v_ln : Nat → Int32} {v_lt : Nat → Int32} {v_tc : Int32} {v_en : Nat → Int32} {v_fr : Nat → Int32} {v_oc : Int32} {v_op : Nat → Int32} {v_os : Nat → Int32}  {out : String ⊕ (Int32 × Int32 × Int32 × (Nat → Int32) × (Nat → Int32) × Int32 × (Nat → Int32) × (Nat → Int32) × Int32 × Int32 × Int32 × Int32 × Int32 × Int32 × (Nat → Int32) × (Nat → Int32) × Int32 × (Nat → Int32) × (Nat → Int32) × Int32 × (Nat → Int32) × (Nat → Int32) × Int32 × (Nat → Int32) × (Nat → Int32))} (g0 : hp x = some (.inr (10, [.ref (x + 126), .ref (x + 128), .ref (x + 1), .ref (x + 3), .ref (x + 16), .ref (x + 18), .ref (x + 124), .ref (x + 125)]))) (g3 : hp (x + 3) = some (.inr (2, [.ref (x + 4), .ref (x + 7), .ref (x + 10), .ref (x + 13), .int sd, .int mn, .int th]))) (g4 : hp (x + 4) = some (.inr (0, [.ref (x + 5), .ref (x + 6), .int dc]))) (g5 : hp (x + 5) = some (.inl (kC E 0, 6, .inl fc))) (g6 : hp (x + 6) = some (.inl (kC E 0, 72, .inl dw))) (g7 : hp (x + 7) = some (.inr (7, [.ref (x + 8), .ref (x + 9), .int pc]))) (g8 : hp (x + 8) = some (.inl (kC E 0, 6, .inl ln))) (g9 : hp (x + 9) = some (.inl (kC E 0, 24, .inl lt))) (g10 : hp (x + 10) = some (.inr (4, [.ref (x + 11), .ref (x + 12), .int tc]))) (g11 : hp (x + 11) = some (.inl (kC E 0, 300, .inl en))) (g12 : hp (x + 12) = some (.inl (kC E 0, 432, .inl fr))) (g13 : hp (x + 13) = some (.inr (6, [.ref (x + 14), .ref (x + 15), .int oc]))) (g14 : hp (x + 14) = some (.inl (kC E 0, 36, .inl op))) (g15 : hp (x + 15) = some (.inl (kC E 0, 36, .inl os))) (g18 : hp (x + 18) = some (.inr (3, [.ref (x + 19), .int nx, .int dp]))) (g19 : hp (x + 19) = some (.inl (kC E 5, 8, .inr (.inr (.inr (.inr rws)))))) (g39 : hp v = some (.inr (2, [.ref (v + 1), .ref (v + 4), .ref (v + 7), .ref (v + 10), .int v_sd, .int v_mn, .int v_th]))) (g40 : hp (v + 1) = some (.inr (0, [.ref (v + 2), .ref (v + 3), .int v_dc]))) (g41 : hp (v + 2) = some (.inl (kC E 0, 6, .inl v_fc))) (g42 : hp (v + 3) = some (.inl (kC E 0, 72, .inl v_dw))) (g43 : hp (v + 4) = some (.inr (7, [.ref (v + 5), .ref (v + 6), .int v_pc]))) (g44 : hp (v + 5) = some (.inl (kC E 0, 6, .inl v_ln))) (g45 : hp (v + 6) = some (.inl (kC E 0, 24, .inl v_lt))) (g46 : hp (v + 7) = some (.inr (4, [.ref (v + 8), .ref (v + 9), .int v_tc]))) (g47 : hp (v + 8) = some (.inl (kC E 0, 300, .inl v_en))) (g48 : hp (v + 9) = some (.inl (kC E 0, 432, .inl v_fr))) (g49 : hp (v + 10) = some (.inr (6, [.ref (v + 11), .ref (v + 12), .int v_oc]))) (g50 : hp (v + 11) = some (.inl (kC E 0, 36, .inl v_op))) (g51 : hp (v + 12) = some (.inl (kC E 0, 36, .inl v_os))) (hvv : rws (Int32.toNatClampNeg nx) = some v) (hlv : (x + 20) ≤ v) (huv : (v + 13) ≤ (x + 124)) (h : f_X10_absolve N mn th dc fc dw pc ln lt sd tc en fr oc op os nx dp v_sd v_mn v_th v_dc v_fc v_dw v_pc v_ln v_lt v_tc v_en v_fr v_oc v_op v_os = some out) : AX E l yX10_absolve cX10_absolve 1 (Option.some Jvm.ClassFile.FieldType.int) ⟨6, 1, 6, 102⟩ [.ref x] hp al (P_X10_absolve E x v mn th hp al out) (kThr out hp) := by
  refine A_ofX (by decide +kernel) (Nat.le_of_ble_eq_true rfl) ?_
  intro p e s m args below meth c X hr htb
  have X : CX E p l s m args meth c "DiceAudit" cX10_absolve 1 := X
  refine A_L (L' := [(0, .ref x)]) rfl ?_
  unfold f_X10_absolve at h
  refine A_aload_n X dX10_absolve_0 0 rfl ?_
  refine A_get X dX10_absolve_1 kcl_X10 3 (by decide) kw_654 g0 rfl ?_
  refine A_get X dX10_absolve_4 kcl_X2 3 (by decide) kw_152 g3 rfl ?_
  refine A_get X dX10_absolve_7 kcl_X6 2 (by decide) kw_131 g13 rfl ?_
  refine A_if_ne (tgt := 24) X dX10_absolve_10 h (by decide) (fun hc h => ?_) (fun hc h => ?_)
  · refine A_aload_n X dX10_absolve_24 0 rfl ?_
    refine A_get X dX10_absolve_25 kcl_X10 5 (by decide) kw_656 g0 rfl ?_
    refine A_aload_n X dX10_absolve_28 0 rfl ?_
    refine A_get X dX10_absolve_29 kcl_X10 3 (by decide) kw_654 g0 rfl ?_
    obtain ⟨t1, hct1, h⟩ := bind_o h
    refine A_c (k' := 0) (n' := 0) rfl rfl (A_runV (rest := []) X dX10_absolve_32 (c_X3_remember g18 g19 g3 g4 g5 g6 g7 g8 g9 g10 g11 g12 g13 g14 g15 g39 g40 g41 g42 g43 g44 g45 g46 g47 g48 g49 g50 g51 hvv (by omega) (by omega) (by omega) (by omega) hct1) kY_X3_remember kw_778 g18 rfl rfl ⟨(Nat.le_of_ble_eq_true rfl), (Nat.le_of_ble_eq_true rfl), (Nat.le_of_ble_eq_true rfl), (Nat.le_of_ble_eq_true rfl)⟩ rfl (Nat.le_of_ble_eq_true rfl)) (fun v9 hp1 al9 hP => ?_)
    obtain ⟨rfl, k1_0, k1_1, k1_2, k1_3, k1_4, k1_5, k1_6, k1_7, k1_8, k1_9, k1_10, k1_11, k1_12, k1_13, n1, rfl⟩ := hP
    replace k1_0 : hp1 (x + 18) = some (.inr (3, [.ref (x + 19), .int t1.1, .int t1.2.1])) := k1_0
    replace k1_1 : hp1 v = some (.inr (2, [.ref (v + 1), .ref (v + 4), .ref (v + 7), .ref (v + 10), .int t1.2.2.1, .int t1.2.2.2.1, .int t1.2.2.2.2.1])) := k1_1
    replace k1_2 : hp1 (v + 1) = some (.inr (0, [.ref (v + 2), .ref (v + 3), .int t1.2.2.2.2.2.1])) := k1_2
    replace k1_3 : hp1 (v + 2) = some (.inl (kC E 0, 6, .inl t1.2.2.2.2.2.2.1)) := k1_3
    replace k1_4 : hp1 (v + 3) = some (.inl (kC E 0, 72, .inl t1.2.2.2.2.2.2.2.1)) := k1_4
    replace k1_5 : hp1 (v + 4) = some (.inr (7, [.ref (v + 5), .ref (v + 6), .int t1.2.2.2.2.2.2.2.2.1])) := k1_5
    replace k1_6 : hp1 (v + 5) = some (.inl (kC E 0, 6, .inl t1.2.2.2.2.2.2.2.2.2.1)) := k1_6
    replace k1_7 : hp1 (v + 6) = some (.inl (kC E 0, 24, .inl t1.2.2.2.2.2.2.2.2.2.2.1)) := k1_7
    replace k1_8 : hp1 (v + 7) = some (.inr (4, [.ref (v + 8), .ref (v + 9), .int t1.2.2.2.2.2.2.2.2.2.2.2.1])) := k1_8
    replace k1_9 : hp1 (v + 8) = some (.inl (kC E 0, 300, .inl t1.2.2.2.2.2.2.2.2.2.2.2.2.1)) := k1_9
    replace k1_10 : hp1 (v + 9) = some (.inl (kC E 0, 432, .inl t1.2.2.2.2.2.2.2.2.2.2.2.2.2.1)) := k1_10
    replace k1_11 : hp1 (v + 10) = some (.inr (6, [.ref (v + 11), .ref (v + 12), .int t1.2.2.2.2.2.2.2.2.2.2.2.2.2.2.1])) := k1_11
    replace k1_12 : hp1 (v + 11) = some (.inl (kC E 0, 36, .inl t1.2.2.2.2.2.2.2.2.2.2.2.2.2.2.2.1)) := k1_12
    replace k1_13 : hp1 (v + 12) = some (.inl (kC E 0, 36, .inl t1.2.2.2.2.2.2.2.2.2.2.2.2.2.2.2.2)) := k1_13
    refine A_st (st' := []) rfl ?_
    refine A_aload_n X dX10_absolve_35 0 rfl ?_
    refine A_get X dX10_absolve_36 kcl_X10 3 (by decide) kw_654 ((n1 _ (by omega) (by omega) (by omega) (by omega) (by omega) (by omega) (by omega) (by omega) (by omega) (by omega) (by omega) (by omega) (by omega) (by omega)).trans g0) rfl ?_
    obtain ⟨t2, hct2, h⟩ := bind_o h
    refine A_c (k' := 0) (n' := 0) rfl rfl (A_runV (rest := []) X dX10_absolve_39 (c_X2_doPenance ((n1 _ (by omega) (by omega) (by omega) (by omega) (by omega) (by omega) (by omega) (by omega) (by omega) (by omega) (by omega) (by omega) (by omega) (by omega)).trans g3) ((n1 _ (by omega) (by omega) (by omega) (by omega) (by omega) (by omega) (by omega) (by omega) (by omega) (by omega) (by omega) (by omega) (by omega) (by omega)).trans g4) ((n1 _ (by omega) (by omega) (by omega) (by omega) (by omega) (by omega) (by omega) (by omega) (by omega) (by omega) (by omega) (by omega) (by omega) (by omega)).trans g5) ((n1 _ (by omega) (by omega) (by omega) (by omega) (by omega) (by omega) (by omega) (by omega) (by omega) (by omega) (by omega) (by omega) (by omega) (by omega)).trans g6) ((n1 _ (by omega) (by omega) (by omega) (by omega) (by omega) (by omega) (by omega) (by omega) (by omega) (by omega) (by omega) (by omega) (by omega) (by omega)).trans g10) ((n1 _ (by omega) (by omega) (by omega) (by omega) (by omega) (by omega) (by omega) (by omega) (by omega) (by omega) (by omega) (by omega) (by omega) (by omega)).trans g11) ((n1 _ (by omega) (by omega) (by omega) (by omega) (by omega) (by omega) (by omega) (by omega) (by omega) (by omega) (by omega) (by omega) (by omega) (by omega)).trans g12) ((n1 _ (by omega) (by omega) (by omega) (by omega) (by omega) (by omega) (by omega) (by omega) (by omega) (by omega) (by omega) (by omega) (by omega) (by omega)).trans g13) ((n1 _ (by omega) (by omega) (by omega) (by omega) (by omega) (by omega) (by omega) (by omega) (by omega) (by omega) (by omega) (by omega) (by omega) (by omega)).trans g14) ((n1 _ (by omega) (by omega) (by omega) (by omega) (by omega) (by omega) (by omega) (by omega) (by omega) (by omega) (by omega) (by omega) (by omega) (by omega)).trans g15)  hct2) kY_X2_doPenance kw_1320 ((n1 _ (by omega) (by omega) (by omega) (by omega) (by omega) (by omega) (by omega) (by omega) (by omega) (by omega) (by omega) (by omega) (by omega) (by omega)).trans g3) rfl rfl ⟨(Nat.le_of_ble_eq_true rfl), (Nat.le_of_ble_eq_true rfl), (Nat.le_of_ble_eq_true rfl), (Nat.le_of_ble_eq_true rfl)⟩ rfl (Nat.le_of_ble_eq_true rfl)) (fun v9 hp2 al9 hP => ?_)
    obtain ⟨rfl, k2_0, k2_1, k2_2, k2_3, k2_4, k2_5, k2_6, n2, rfl⟩ := hP
    replace k2_0 : hp2 (x + 3) = some (.inr (2, [.ref (x + 4), .ref (x + 7), .ref (x + 10), .ref (x + 13), .int t2.2.1, .int mn, .int th])) := k2_0
    replace k2_1 : hp2 (x + 10) = some (.inr (4, [.ref (x + 11), .ref (x + 12), .int t2.2.2.1])) := k2_1
    replace k2_2 : hp2 (x + 11) = some (.inl (kC E 0, 300, .inl t2.2.2.2.1)) := k2_2
    replace k2_3 : hp2 (x + 12) = some (.inl (kC E 0, 432, .inl t2.2.2.2.2.1)) := k2_3
    replace k2_4 : hp2 (x + 13) = some (.inr (6, [.ref (x + 14), .ref (x + 15), .int t2.2.2.2.2.2.1])) := k2_4
    replace k2_5 : hp2 (x + 14) = some (.inl (kC E 0, 36, .inl t2.2.2.2.2.2.2.1)) := k2_5
    replace k2_6 : hp2 (x + 15) = some (.inl (kC E 0, 36, .inl t2.2.2.2.2.2.2.2)) := k2_6
    refine A_st (st' := [.int t2.1]) rfl ?_
    cases h
    exact A_iretX X dX10_absolve_42 hr ⟨_, rfl, rfl, k2_0, k2_1, k2_2, k2_3, k2_4, k2_5, k2_6, ((n2 _ (by omega) (by omega) (by omega) (by omega) (by omega) (by omega) (by omega)).trans k1_0), ((n2 _ (by omega) (by omega) (by omega) (by omega) (by omega) (by omega) (by omega)).trans k1_1), ((n2 _ (by omega) (by omega) (by omega) (by omega) (by omega) (by omega) (by omega)).trans k1_2), ((n2 _ (by omega) (by omega) (by omega) (by omega) (by omega) (by omega) (by omega)).trans k1_3), ((n2 _ (by omega) (by omega) (by omega) (by omega) (by omega) (by omega) (by omega)).trans k1_4), ((n2 _ (by omega) (by omega) (by omega) (by omega) (by omega) (by omega) (by omega)).trans k1_5), ((n2 _ (by omega) (by omega) (by omega) (by omega) (by omega) (by omega) (by omega)).trans k1_6), ((n2 _ (by omega) (by omega) (by omega) (by omega) (by omega) (by omega) (by omega)).trans k1_7), ((n2 _ (by omega) (by omega) (by omega) (by omega) (by omega) (by omega) (by omega)).trans k1_8), ((n2 _ (by omega) (by omega) (by omega) (by omega) (by omega) (by omega) (by omega)).trans k1_9), ((n2 _ (by omega) (by omega) (by omega) (by omega) (by omega) (by omega) (by omega)).trans k1_10), ((n2 _ (by omega) (by omega) (by omega) (by omega) (by omega) (by omega) (by omega)).trans k1_11), ((n2 _ (by omega) (by omega) (by omega) (by omega) (by omega) (by omega) (by omega)).trans k1_12), ((n2 _ (by omega) (by omega) (by omega) (by omega) (by omega) (by omega) (by omega)).trans k1_13), (fun q z0 z1 z2 z3 z4 z5 z6 z7 z8 z9 z10 z11 z12 z13 z14 z15 z16 z17 z18 z19 z20 => ((n2 q z0 z1 z2 z3 z4 z5 z6).trans (n1 q z7 z8 z9 z10 z11 z12 z13 z14 z15 z16 z17 z18 z19 z20))), rfl⟩ (Nat.le_of_ble_eq_true rfl) (Nat.le_of_ble_eq_true rfl)
  · cases h
    exact A_throwSW (names := ["java/lang/RuntimeException", "java/lang/Exception"]) X htb (by decide +kernel) (by decide +kernel) kw_843 kw_23 (List.mem_of_getElem? (i := 23) rfl) xa_X10_86 xg_X10_86 dX10_absolve_13 dX10_absolve_16 dX10_absolve_17 dX10_absolve_20 dX10_absolve_23 (Nat.le_of_ble_eq_true rfl) (Nat.le_of_ble_eq_true rfl) (Nat.le_of_ble_eq_true rfl) (Nat.le_of_ble_eq_true rfl) ⟨rfl, rfl⟩ (Nat.le_of_ble_eq_true rfl) (Nat.le_of_ble_eq_true rfl)
abbrev P_X10_forgive (E : KE) (x : Nat) (v : Nat)  (hp : Hp) (al : Option Nat) (out : String ⊕ (Int32 × Int32 × (Nat → Int32) × (Nat → Int32) × Int32 × Int32 × Int32 × Int32 × Int32 × Int32 × (Nat → Int32) × (Nat → Int32) × Int32 × (Nat → Int32) × (Nat → Int32) × Int32 × (Nat → Int32) × (Nat → Int32) × Int32 × (Nat → Int32) × (Nat → Int32))) : Option Value → Hp → Option Nat → Prop := fun v0 hp' al' => ∃ u, out = .inr u ∧ v0 = some (.int u.1) ∧ hp' (x + 13) = some (.inr (6, [.ref (x + 14), .ref (x + 15), .int u.2.1])) ∧ hp' (x + 14) = some (.inl (kC E 0, 36, .inl u.2.2.1)) ∧ hp' (x + 15) = some (.inl (kC E 0, 36, .inl u.2.2.2.1)) ∧ hp' (x + 18) = some (.inr (3, [.ref (x + 19), .int u.2.2.2.2.1, .int u.2.2.2.2.2.1])) ∧ hp' v = some (.inr (2, [.ref (v + 1), .ref (v + 4), .ref (v + 7), .ref (v + 10), .int u.2.2.2.2.2.2.1, .int u.2.2.2.2.2.2.2.1, .int u.2.2.2.2.2.2.2.2.1])) ∧ hp' (v + 1) = some (.inr (0, [.ref (v + 2), .ref (v + 3), .int u.2.2.2.2.2.2.2.2.2.1])) ∧ hp' (v + 2) = some (.inl (kC E 0, 6, .inl u.2.2.2.2.2.2.2.2.2.2.1)) ∧ hp' (v + 3) = some (.inl (kC E 0, 72, .inl u.2.2.2.2.2.2.2.2.2.2.2.1)) ∧ hp' (v + 4) = some (.inr (7, [.ref (v + 5), .ref (v + 6), .int u.2.2.2.2.2.2.2.2.2.2.2.2.1])) ∧ hp' (v + 5) = some (.inl (kC E 0, 6, .inl u.2.2.2.2.2.2.2.2.2.2.2.2.2.1)) ∧ hp' (v + 6) = some (.inl (kC E 0, 24, .inl u.2.2.2.2.2.2.2.2.2.2.2.2.2.2.1)) ∧ hp' (v + 7) = some (.inr (4, [.ref (v + 8), .ref (v + 9), .int u.2.2.2.2.2.2.2.2.2.2.2.2.2.2.2.1])) ∧ hp' (v + 8) = some (.inl (kC E 0, 300, .inl u.2.2.2.2.2.2.2.2.2.2.2.2.2.2.2.2.1)) ∧ hp' (v + 9) = some (.inl (kC E 0, 432, .inl u.2.2.2.2.2.2.2.2.2.2.2.2.2.2.2.2.2.1)) ∧ hp' (v + 10) = some (.inr (6, [.ref (v + 11), .ref (v + 12), .int u.2.2.2.2.2.2.2.2.2.2.2.2.2.2.2.2.2.2.1])) ∧ hp' (v + 11) = some (.inl (kC E 0, 36, .inl u.2.2.2.2.2.2.2.2.2.2.2.2.2.2.2.2.2.2.2.1)) ∧ hp' (v + 12) = some (.inl (kC E 0, 36, .inl u.2.2.2.2.2.2.2.2.2.2.2.2.2.2.2.2.2.2.2.2)) ∧ (∀ q, q ≠ (x + 13) → q ≠ (x + 14) → q ≠ (x + 15) → q ≠ (x + 18) → q ≠ v → q ≠ (v + 1) → q ≠ (v + 2) → q ≠ (v + 3) → q ≠ (v + 4) → q ≠ (v + 5) → q ≠ (v + 6) → q ≠ (v + 7) → q ≠ (v + 8) → q ≠ (v + 9) → q ≠ (v + 10) → q ≠ (v + 11) → q ≠ (v + 12) → hp' q = hp q) ∧ al = al'
def f_X10_forgive (N : Nat) (sd : Int32) (mn : Int32) (th : Int32) (dc : Int32) (fc : Nat → Int32) (dw : Nat → Int32) (pc : Int32) (ln : Nat → Int32) (lt : Nat → Int32) (tc : Int32) (en : Nat → Int32) (fr : Nat → Int32) (oc : Int32) (op : Nat → Int32) (os : Nat → Int32) (nx : Int32) (dp : Int32) (v_sd : Int32) (v_mn : Int32) (v_th : Int32) (v_dc : Int32) (v_fc : Nat → Int32) (v_dw : Nat → Int32) (v_pc : Int32) (v_ln : Nat → Int32) (v_lt : Nat → Int32) (v_tc : Int32) (v_en : Nat → Int32) (v_fr : Nat → Int32) (v_oc : Int32) (v_op : Nat → Int32) (v_os : Nat → Int32) (a0 : Int32) : Option (String ⊕ (Int32 × Int32 × (Nat → Int32) × (Nat → Int32) × Int32 × Int32 × Int32 × Int32 × Int32 × Int32 × (Nat → Int32) × (Nat → Int32) × Int32 × (Nat → Int32) × (Nat → Int32) × Int32 × (Nat → Int32) × (Nat → Int32) × Int32 × (Nat → Int32) × (Nat → Int32))) :=
  sbd (f_X10_requirePlayer pc a0) fun t1 =>
  (f_X3_remember sd mn th dc fc dw pc ln lt tc en fr oc op os nx dp v_sd v_mn v_th v_dc v_fc v_dw v_pc v_ln v_lt v_tc v_en v_fr v_oc v_op v_os).bind fun t2 =>
  (f_X6_removeAllOf N oc op os a0).bind fun t3 =>
  some (.inr (t3.1, t3.2.1, t3.2.2.1, t3.2.2.2, t2.1, t2.2.1, t2.2.2.1, t2.2.2.2.1, t2.2.2.2.2.1, t2.2.2.2.2.2.1, t2.2.2.2.2.2.2.1, t2.2.2.2.2.2.2.2.1, t2.2.2.2.2.2.2.2.2.1, t2.2.2.2.2.2.2.2.2.2.1, t2.2.2.2.2.2.2.2.2.2.2.1, t2.2.2.2.2.2.2.2.2.2.2.2.1, t2.2.2.2.2.2.2.2.2.2.2.2.2.1, t2.2.2.2.2.2.2.2.2.2.2.2.2.2.1, t2.2.2.2.2.2.2.2.2.2.2.2.2.2.2.1, t2.2.2.2.2.2.2.2.2.2.2.2.2.2.2.2.1, t2.2.2.2.2.2.2.2.2.2.2.2.2.2.2.2.2))
set_option maxHeartbeats 4000000 in
set_option maxRecDepth 100000 in
theorem c_X10_forgive {E : KE} {l : Launch} {hp : Hp} {al : Option Nat} {N : Nat} {x : Nat} {v : Nat} {sd : Int32} {mn : Int32} {th : Int32} {dc : Int32} {fc : Nat → Int32} {dw : Nat → Int32} {pc : Int32} {ln : Nat → Int32} {lt : Nat → Int32} {tc : Int32} {en : Nat → Int32} {fr : Nat → Int32} {oc : Int32} {op : Nat → Int32} {os : Nat → Int32} {nx : Int32} {dp : Int32} {rws : Nat → Option Nat} {v_sd : Int32} {v_mn : Int32} {v_th : Int32} {v_dc : Int32} {v_fc : Nat → Int32} {v_dw : Nat → Int32} {v_pc : Int32} {v_ln : Nat → Int32} {v_lt : Nat → Int32} {v_tc : Int32} {v_en : Nat → Int32} {v_fr : Nat → Int32} {v_oc : Int32} {v_op : Nat → Int32} {v_os : Nat → Int32} {a0 : Int32} {out : String ⊕ (Int32 × Int32 × (Nat → Int32) × (Nat → Int32) × Int32 × Int32 × Int32 × Int32 × Int32 × Int32 × (Nat → Int32) × (Nat → Int32) × Int32 × (Nat → Int32) × (Nat → Int32) × Int32 × (Nat → Int32) × (Nat → Int32) × Int32 × (Nat → Int32) × (Nat → Int32))} (g0 : hp x = some (.inr (10, [.ref (x + 126), .ref (x + 128), .ref (x + 1), .ref (x + 3), .ref (x + 16), .ref (x + 18), .ref (x + 124), .ref (x + 125)]))) (g3 : hp (x + 3) = some (.inr (2, [.ref (x + 4), .ref (x + 7), .ref (x + 10), .ref (x + 13), .int sd, .int mn, .int th]))) (g4 : hp (x + 4) = some (.inr (0, [.ref (x + 5), .ref (x + 6), .int dc]))) (g5 : hp (x + 5) = some (.inl (kC E 0, 6, .inl fc))) (g6 : hp (x + 6) = some (.inl (kC E 0, 72, .inl dw))) (g7 : hp (x + 7) = some (.inr (7, [.ref (x + 8), .ref (x + 9), .int pc]))) (g8 : hp (x + 8) = some (.inl (kC E 0, 6, .inl ln))) (g9 : hp (x + 9) = some (.inl (kC E 0, 24, .inl lt))) (g10 : hp (x + 10) = some (.inr (4, [.ref (x + 11), .ref (x + 12), .int tc]))) (g11 : hp (x + 11) = some (.inl (kC E 0, 300, .inl en))) (g12 : hp (x + 12) = some (.inl (kC E 0, 432, .inl fr))) (g13 : hp (x + 13) = some (.inr (6, [.ref (x + 14), .ref (x + 15), .int oc]))) (g14 : hp (x + 14) = some (.inl (kC E 0, 36, .inl op))) (g15 : hp (x + 15) = some (.inl (kC E 0, 36, .inl os))) (g18 : hp (x + 18) = some (.inr (3, [.ref (x + 19), .int nx, .int dp]))) (g19 : hp (x + 19) = some (.inl (kC E 5, 8, .inr (.inr (.inr (.inr rws)))))) (g39 : hp v = some (.inr (2, [.ref (v + 1), .ref (v + 4), .ref (v + 7), .ref (v + 10), .int v_sd, .int v_mn, .int v_th]))) (g40 : hp (v + 1) = some (.inr (0, [.ref (v + 2), .ref (v + 3), .int v_dc]))) (g41 : hp (v + 2) = some (.inl (kC E 0, 6, .inl v_fc))) (g42 : hp (v + 3) = some (.inl (kC E 0, 72, .inl v_dw))) (g43 : hp (v + 4) = some (.inr (7, [.ref (v + 5), .ref (v + 6), .int v_pc]))) (g44 : hp (v + 5) = some (.inl (kC E 0, 6, .inl v_ln))) (g45 : hp (v + 6) = some (.inl (kC E 0, 24, .inl v_lt))) (g46 : hp (v + 7) = some (.inr (4, [.ref (v + 8), .ref (v + 9), .int v_tc]))) (g47 : hp (v + 8) = some (.inl (kC E 0, 300, .inl v_en))) (g48 : hp (v + 9) = some (.inl (kC E 0, 432, .inl v_fr))) (g49 : hp (v + 10) = some (.inr (6, [.ref (v + 11), .ref (v + 12), .int v_oc]))) (g50 : hp (v + 11) = some (.inl (kC E 0, 36, .inl v_op))) (g51 : hp (v + 12) = some (.inl (kC E 0, 36, .inl v_os))) (hvv : rws (Int32.toNatClampNeg nx) = some v) (hlv : (x + 20) ≤ v) (huv : (v + 13) ≤ (x + 124)) (h : f_X10_forgive N sd mn th dc fc dw pc ln lt tc en fr oc op os nx dp v_sd v_mn v_th v_dc v_fc v_dw v_pc v_ln v_lt v_tc v_en v_fr v_oc v_op v_os a0 = some out) : AX E l yX10_forgive cX10_forgive 2 (Option.some Jvm.ClassFile.FieldType.int) ⟨8, 1, 6, 124⟩ [.ref x, .int a0] hp al (P_X10_forgive E x v hp al out) (kThr out hp) := by
  refine A_ofX (by decide +kernel) (Nat.le_of_ble_eq_true rfl) ?_
  intro p e s m args below meth c X hr htb
  have X : CX E p l s m args meth c "DiceAudit" cX10_forgive 2 := X
  refine A_L (L' := [(0, .ref x), (1, .int a0)]) rfl ?_
  unfold f_X10_forgive at h
  refine A_aload_n X dX10_forgive_0 0 rfl ?_
  refine A_iload_n X dX10_forgive_1 1 rfl ?_
  rcases sbd_o h with ⟨c9, hc9, rfl⟩ | ⟨t1, hct1, h⟩
  · exact A_cX (k' := 1) (n' := 6) rfl rfl (A_runVX (rest := []) X dX10_forgive_2 (c_X10_requirePlayer g0 g3 g7  hc9) kY_X10_requirePlayer kw_1029 g0 rfl rfl ⟨(Nat.le_of_ble_eq_true rfl), (Nat.le_of_ble_eq_true rfl), (Nat.le_of_ble_eq_true rfl), (Nat.le_of_ble_eq_true rfl)⟩ rfl (Nat.le_of_ble_eq_true rfl)) (fun C hp1 hP => by obtain ⟨hC, rfl⟩ := hP; cases hC; exact A_out X htb ⟨rfl, rfl⟩ (Nat.le_of_ble_eq_true rfl) (Nat.le_of_ble_eq_true rfl)) (fun v hp1 al1 hP => by obtain ⟨u, hu, _⟩ := hP; cases hu)
  refine A_cX (k' := 1) (n' := 6) rfl rfl (A_runVX (rest := []) X dX10_forgive_2 (c_X10_requirePlayer g0 g3 g7  hct1) kY_X10_requirePlayer kw_1029 g0 rfl rfl ⟨(Nat.le_of_ble_eq_true rfl), (Nat.le_of_ble_eq_true rfl), (Nat.le_of_ble_eq_true rfl), (Nat.le_of_ble_eq_true rfl)⟩ rfl (Nat.le_of_ble_eq_true rfl)) (fun C hp1 hP => by obtain ⟨hC, _⟩ := hP; cases hC) (fun v9 hp1 al9 hP => ?_)
  obtain ⟨u9, hu9, rfl, rfl, rfl⟩ := hP
  cases hu9
  refine A_st (st' := []) rfl ?_
  refine A_aload_n X dX10_forgive_5 0 rfl ?_
  refine A_get X dX10_forgive_6 kcl_X10 5 (by decide) kw_656 g0 rfl ?_
  refine A_aload_n X dX10_forgive_9 0 rfl ?_
  refine A_get X dX10_forgive_10 kcl_X10 3 (by decide) kw_654 g0 rfl ?_
  obtain ⟨t2, hct2, h⟩ := bind_o h
  refine A_c (k' := 1) (n' := 6) rfl rfl (A_runV (rest := []) X dX10_forgive_13 (c_X3_remember g18 g19 g3 g4 g5 g6 g7 g8 g9 g10 g11 g12 g13 g14 g15 g39 g40 g41 g42 g43 g44 g45 g46 g47 g48 g49 g50 g51 hvv (by omega) (by omega) (by omega) (by omega) hct2) kY_X3_remember kw_778 g18 rfl rfl ⟨(Nat.le_of_ble_eq_true rfl), (Nat.le_of_ble_eq_true rfl), (Nat.le_of_ble_eq_true rfl), (Nat.le_of_ble_eq_true rfl)⟩ rfl (Nat.le_of_ble_eq_true rfl)) (fun v9 hp1 al9 hP => ?_)
  obtain ⟨rfl, k1_0, k1_1, k1_2, k1_3, k1_4, k1_5, k1_6, k1_7, k1_8, k1_9, k1_10, k1_11, k1_12, k1_13, n1, rfl⟩ := hP
  replace k1_0 : hp1 (x + 18) = some (.inr (3, [.ref (x + 19), .int t2.1, .int t2.2.1])) := k1_0
  replace k1_1 : hp1 v = some (.inr (2, [.ref (v + 1), .ref (v + 4), .ref (v + 7), .ref (v + 10), .int t2.2.2.1, .int t2.2.2.2.1, .int t2.2.2.2.2.1])) := k1_1
  replace k1_2 : hp1 (v + 1) = some (.inr (0, [.ref (v + 2), .ref (v + 3), .int t2.2.2.2.2.2.1])) := k1_2
  replace k1_3 : hp1 (v + 2) = some (.inl (kC E 0, 6, .inl t2.2.2.2.2.2.2.1)) := k1_3
  replace k1_4 : hp1 (v + 3) = some (.inl (kC E 0, 72, .inl t2.2.2.2.2.2.2.2.1)) := k1_4
  replace k1_5 : hp1 (v + 4) = some (.inr (7, [.ref (v + 5), .ref (v + 6), .int t2.2.2.2.2.2.2.2.2.1])) := k1_5
  replace k1_6 : hp1 (v + 5) = some (.inl (kC E 0, 6, .inl t2.2.2.2.2.2.2.2.2.2.1)) := k1_6
  replace k1_7 : hp1 (v + 6) = some (.inl (kC E 0, 24, .inl t2.2.2.2.2.2.2.2.2.2.2.1)) := k1_7
  replace k1_8 : hp1 (v + 7) = some (.inr (4, [.ref (v + 8), .ref (v + 9), .int t2.2.2.2.2.2.2.2.2.2.2.2.1])) := k1_8
  replace k1_9 : hp1 (v + 8) = some (.inl (kC E 0, 300, .inl t2.2.2.2.2.2.2.2.2.2.2.2.2.1)) := k1_9
  replace k1_10 : hp1 (v + 9) = some (.inl (kC E 0, 432, .inl t2.2.2.2.2.2.2.2.2.2.2.2.2.2.1)) := k1_10
  replace k1_11 : hp1 (v + 10) = some (.inr (6, [.ref (v + 11), .ref (v + 12), .int t2.2.2.2.2.2.2.2.2.2.2.2.2.2.2.1])) := k1_11
  replace k1_12 : hp1 (v + 11) = some (.inl (kC E 0, 36, .inl t2.2.2.2.2.2.2.2.2.2.2.2.2.2.2.2.1)) := k1_12
  replace k1_13 : hp1 (v + 12) = some (.inl (kC E 0, 36, .inl t2.2.2.2.2.2.2.2.2.2.2.2.2.2.2.2.2)) := k1_13
  refine A_st (st' := []) rfl ?_
  refine A_aload_n X dX10_forgive_16 0 rfl ?_
  refine A_get X dX10_forgive_17 kcl_X10 3 (by decide) kw_654 ((n1 _ (by omega) (by omega) (by omega) (by omega) (by omega) (by omega) (by omega) (by omega) (by omega) (by omega) (by omega) (by omega) (by omega) (by omega)).trans g0) rfl ?_
  refine A_get X dX10_forgive_20 kcl_X2 3 (by decide) kw_152 ((n1 _ (by omega) (by omega) (by omega) (by omega) (by omega) (by omega) (by omega) (by omega) (by omega) (by omega) (by omega) (by omega) (by omega) (by omega)).trans g3) rfl ?_
  refine A_iload_n X dX10_forgive_23 1 rfl ?_
  obtain ⟨t3, hct3, h⟩ := bind_o h
  refine A_c (k' := 1) (n' := 6) rfl rfl (A_runV (rest := []) X dX10_forgive_24 (c_X6_removeAllOf ((n1 _ (by omega) (by omega) (by omega) (by omega) (by omega) (by omega) (by omega) (by omega) (by omega) (by omega) (by omega) (by omega) (by omega) (by omega)).trans g13) ((n1 _ (by omega) (by omega) (by omega) (by omega) (by omega) (by omega) (by omega) (by omega) (by omega) (by omega) (by omega) (by omega) (by omega) (by omega)).trans g14) ((n1 _ (by omega) (by omega) (by omega) (by omega) (by omega) (by omega) (by omega) (by omega) (by omega) (by omega) (by omega) (by omega) (by omega) (by omega)).trans g15)  hct3) kY_X6_removeAllOf kw_1328 ((n1 _ (by omega) (by omega) (by omega) (by omega) (by omega) (by omega) (by omega) (by omega) (by omega) (by omega) (by omega) (by omega) (by omega) (by omega)).trans g13) rfl rfl ⟨(Nat.le_of_ble_eq_true rfl), (Nat.le_of_ble_eq_true rfl), (Nat.le_of_ble_eq_true rfl), (Nat.le_of_ble_eq_true rfl)⟩ rfl (Nat.le_of_ble_eq_true rfl)) (fun v9 hp2 al9 hP => ?_)
  obtain ⟨rfl, k2_0, k2_1, k2_2, n2, rfl⟩ := hP
  replace k2_0 : hp2 (x + 13) = some (.inr (6, [.ref (x + 14), .ref (x + 15), .int t3.2.1])) := k2_0
  replace k2_1 : hp2 (x + 14) = some (.inl (kC E 0, 36, .inl t3.2.2.1)) := k2_1
  replace k2_2 : hp2 (x + 15) = some (.inl (kC E 0, 36, .inl t3.2.2.2)) := k2_2
  refine A_st (st' := [.int t3.1]) rfl ?_
  cases h
  exact A_iretX X dX10_forgive_27 hr ⟨_, rfl, rfl, k2_0, k2_1, k2_2, ((n2 _ (by omega) (by omega) (by omega)).trans k1_0), ((n2 _ (by omega) (by omega) (by omega)).trans k1_1), ((n2 _ (by omega) (by omega) (by omega)).trans k1_2), ((n2 _ (by omega) (by omega) (by omega)).trans k1_3), ((n2 _ (by omega) (by omega) (by omega)).trans k1_4), ((n2 _ (by omega) (by omega) (by omega)).trans k1_5), ((n2 _ (by omega) (by omega) (by omega)).trans k1_6), ((n2 _ (by omega) (by omega) (by omega)).trans k1_7), ((n2 _ (by omega) (by omega) (by omega)).trans k1_8), ((n2 _ (by omega) (by omega) (by omega)).trans k1_9), ((n2 _ (by omega) (by omega) (by omega)).trans k1_10), ((n2 _ (by omega) (by omega) (by omega)).trans k1_11), ((n2 _ (by omega) (by omega) (by omega)).trans k1_12), ((n2 _ (by omega) (by omega) (by omega)).trans k1_13), (fun q z0 z1 z2 z3 z4 z5 z6 z7 z8 z9 z10 z11 z12 z13 z14 z15 z16 => ((n2 q z0 z1 z2).trans (n1 q z3 z4 z5 z6 z7 z8 z9 z10 z11 z12 z13 z14 z15 z16))), rfl⟩ (Nat.le_of_ble_eq_true rfl) (Nat.le_of_ble_eq_true rfl)
abbrev P_X10_setWeight (E : KE) (x : Nat) (v : Nat)  (hp : Hp) (al : Option Nat) (out : String ⊕ (Int32 × (Nat → Int32) × Int32 × Int32 × Int32 × Int32 × Int32 × Int32 × (Nat → Int32) × (Nat → Int32) × Int32 × (Nat → Int32) × (Nat → Int32) × Int32 × (Nat → Int32) × (Nat → Int32) × Int32 × (Nat → Int32) × (Nat → Int32))) : Option Value → Hp → Option Nat → Prop := fun v0 hp' al' => ∃ u, out = .inr u ∧ v0 = some (.int u.1) ∧ hp' (x + 6) = some (.inl (kC E 0, 72, .inl u.2.1)) ∧ hp' (x + 18) = some (.inr (3, [.ref (x + 19), .int u.2.2.1, .int u.2.2.2.1])) ∧ hp' v = some (.inr (2, [.ref (v + 1), .ref (v + 4), .ref (v + 7), .ref (v + 10), .int u.2.2.2.2.1, .int u.2.2.2.2.2.1, .int u.2.2.2.2.2.2.1])) ∧ hp' (v + 1) = some (.inr (0, [.ref (v + 2), .ref (v + 3), .int u.2.2.2.2.2.2.2.1])) ∧ hp' (v + 2) = some (.inl (kC E 0, 6, .inl u.2.2.2.2.2.2.2.2.1)) ∧ hp' (v + 3) = some (.inl (kC E 0, 72, .inl u.2.2.2.2.2.2.2.2.2.1)) ∧ hp' (v + 4) = some (.inr (7, [.ref (v + 5), .ref (v + 6), .int u.2.2.2.2.2.2.2.2.2.2.1])) ∧ hp' (v + 5) = some (.inl (kC E 0, 6, .inl u.2.2.2.2.2.2.2.2.2.2.2.1)) ∧ hp' (v + 6) = some (.inl (kC E 0, 24, .inl u.2.2.2.2.2.2.2.2.2.2.2.2.1)) ∧ hp' (v + 7) = some (.inr (4, [.ref (v + 8), .ref (v + 9), .int u.2.2.2.2.2.2.2.2.2.2.2.2.2.1])) ∧ hp' (v + 8) = some (.inl (kC E 0, 300, .inl u.2.2.2.2.2.2.2.2.2.2.2.2.2.2.1)) ∧ hp' (v + 9) = some (.inl (kC E 0, 432, .inl u.2.2.2.2.2.2.2.2.2.2.2.2.2.2.2.1)) ∧ hp' (v + 10) = some (.inr (6, [.ref (v + 11), .ref (v + 12), .int u.2.2.2.2.2.2.2.2.2.2.2.2.2.2.2.2.1])) ∧ hp' (v + 11) = some (.inl (kC E 0, 36, .inl u.2.2.2.2.2.2.2.2.2.2.2.2.2.2.2.2.2.1)) ∧ hp' (v + 12) = some (.inl (kC E 0, 36, .inl u.2.2.2.2.2.2.2.2.2.2.2.2.2.2.2.2.2.2)) ∧ (∀ q, q ≠ (x + 6) → q ≠ (x + 18) → q ≠ v → q ≠ (v + 1) → q ≠ (v + 2) → q ≠ (v + 3) → q ≠ (v + 4) → q ≠ (v + 5) → q ≠ (v + 6) → q ≠ (v + 7) → q ≠ (v + 8) → q ≠ (v + 9) → q ≠ (v + 10) → q ≠ (v + 11) → q ≠ (v + 12) → hp' q = hp q) ∧ al = al'
def f_X10_setWeight (N : Nat) (sd : Int32) (mn : Int32) (th : Int32) (dc : Int32) (fc : Nat → Int32) (pc : Int32) (ln : Nat → Int32) (lt : Nat → Int32) (tc : Int32) (en : Nat → Int32) (fr : Nat → Int32) (oc : Int32) (op : Nat → Int32) (os : Nat → Int32) (dw : Nat → Int32) (nx : Int32) (dp : Int32) (v_sd : Int32) (v_mn : Int32) (v_th : Int32) (v_dc : Int32) (v_fc : Nat → Int32) (v_dw : Nat → Int32) (v_pc : Int32) (v_ln : Nat → Int32) (v_lt : Nat → Int32) (v_tc : Int32) (v_en : Nat → Int32) (v_fr : Nat → Int32) (v_oc : Int32) (v_op : Nat → Int32) (v_os : Nat → Int32) (a0 : Int32) (a1 : Int32) (a2 : Int32) : Option (String ⊕ (Int32 × (Nat → Int32) × Int32 × Int32 × Int32 × Int32 × Int32 × Int32 × (Nat → Int32) × (Nat → Int32) × Int32 × (Nat → Int32) × (Nat → Int32) × Int32 × (Nat → Int32) × (Nat → Int32) × Int32 × (Nat → Int32) × (Nat → Int32))) :=
  sbd (f_X10_requireDie dc a0) fun t1 =>
  sbd (f_X10_requireFace fc a0 a1) fun t2 =>
  sbd (f_X10_requireRange a2 0 9) fun t3 =>
  (f_X0_weight dw a0 a1).bind fun t4 =>
  (f_X0_weightSum N fc dw a0).bind fun t5 =>
  if ((t5 - t4) + a2) = 0 then
    some (.inl "java/lang/IllegalStateException")
  else
    (f_X3_remember sd mn th dc fc dw pc ln lt tc en fr oc op os nx dp v_sd v_mn v_th v_dc v_fc v_dw v_pc v_ln v_lt v_tc v_en v_fr v_oc v_op v_os).bind fun t6 =>
    (f_X0_putWeight dw a0 a1 a2).bind fun t7 =>
    some (.inr (t4, t7, t6.1, t6.2.1, t6.2.2.1, t6.2.2.2.1, t6.2.2.2.2.1, t6.2.2.2.2.2.1, t6.2.2.2.2.2.2.1, t6.2.2.2.2.2.2.2.1, t6.2.2.2.2.2.2.2.2.1, t6.2.2.2.2.2.2.2.2.2.1, t6.2.2.2.2.2.2.2.2.2.2.1, t6.2.2.2.2.2.2.2.2.2.2.2.1, t6.2.2.2.2.2.2.2.2.2.2.2.2.1, t6.2.2.2.2.2.2.2.2.2.2.2.2.2.1, t6.2.2.2.2.2.2.2.2.2.2.2.2.2.2.1, t6.2.2.2.2.2.2.2.2.2.2.2.2.2.2.2.1, t6.2.2.2.2.2.2.2.2.2.2.2.2.2.2.2.2))
set_option maxHeartbeats 4000000 in
set_option maxRecDepth 100000 in
theorem c_X10_setWeight {E : KE} {l : Launch} {hp : Hp} {al : Option Nat} {N : Nat} {x : Nat} {v : Nat} {sd : Int32} {mn : Int32} {th : Int32} {dc : Int32} {fc : Nat → Int32} {dw : Nat → Int32} {pc : Int32} {ln : Nat → Int32} {lt : Nat → Int32} {tc : Int32} {en : Nat → Int32} {fr : Nat → Int32} {oc : Int32} {op : Nat → Int32} {os : Nat → Int32} {nx : Int32} {dp : Int32} {rws : Nat → Option Nat} {v_sd : Int32} {v_mn : Int32} {v_th : Int32} {v_dc : Int32} {v_fc : Nat → Int32} {v_dw : Nat → Int32} {v_pc : Int32} {v_ln : Nat → Int32} {v_lt : Nat → Int32} {v_tc : Int32} {v_en : Nat → Int32} {v_fr : Nat → Int32} {v_oc : Int32} {v_op : Nat → Int32} {v_os : Nat → Int32} {a0 : Int32} {a1 : Int32} {a2 : Int32} {out : String ⊕ (Int32 × (Nat → Int32) × Int32 × Int32 × Int32 × Int32 × Int32 × Int32 × (Nat → Int32) × (Nat → Int32) × Int32 × (Nat → Int32) × (Nat → Int32) × Int32 × (Nat → Int32) × (Nat → Int32) × Int32 × (Nat → Int32) × (Nat → Int32))} (g0 : hp x = some (.inr (10, [.ref (x + 126), .ref (x + 128), .ref (x + 1), .ref (x + 3), .ref (x + 16), .ref (x + 18), .ref (x + 124), .ref (x + 125)]))) (g3 : hp (x + 3) = some (.inr (2, [.ref (x + 4), .ref (x + 7), .ref (x + 10), .ref (x + 13), .int sd, .int mn, .int th]))) (g4 : hp (x + 4) = some (.inr (0, [.ref (x + 5), .ref (x + 6), .int dc]))) (g5 : hp (x + 5) = some (.inl (kC E 0, 6, .inl fc))) (g6 : hp (x + 6) = some (.inl (kC E 0, 72, .inl dw))) (g7 : hp (x + 7) = some (.inr (7, [.ref (x + 8), .ref (x + 9), .int pc]))) (g8 : hp (x + 8) = some (.inl (kC E 0, 6, .inl ln))) (g9 : hp (x + 9) = some (.inl (kC E 0, 24, .inl lt))) (g10 : hp (x + 10) = some (.inr (4, [.ref (x + 11), .ref (x + 12), .int tc]))) (g11 : hp (x + 11) = some (.inl (kC E 0, 300, .inl en))) (g12 : hp (x + 12) = some (.inl (kC E 0, 432, .inl fr))) (g13 : hp (x + 13) = some (.inr (6, [.ref (x + 14), .ref (x + 15), .int oc]))) (g14 : hp (x + 14) = some (.inl (kC E 0, 36, .inl op))) (g15 : hp (x + 15) = some (.inl (kC E 0, 36, .inl os))) (g18 : hp (x + 18) = some (.inr (3, [.ref (x + 19), .int nx, .int dp]))) (g19 : hp (x + 19) = some (.inl (kC E 5, 8, .inr (.inr (.inr (.inr rws)))))) (g39 : hp v = some (.inr (2, [.ref (v + 1), .ref (v + 4), .ref (v + 7), .ref (v + 10), .int v_sd, .int v_mn, .int v_th]))) (g40 : hp (v + 1) = some (.inr (0, [.ref (v + 2), .ref (v + 3), .int v_dc]))) (g41 : hp (v + 2) = some (.inl (kC E 0, 6, .inl v_fc))) (g42 : hp (v + 3) = some (.inl (kC E 0, 72, .inl v_dw))) (g43 : hp (v + 4) = some (.inr (7, [.ref (v + 5), .ref (v + 6), .int v_pc]))) (g44 : hp (v + 5) = some (.inl (kC E 0, 6, .inl v_ln))) (g45 : hp (v + 6) = some (.inl (kC E 0, 24, .inl v_lt))) (g46 : hp (v + 7) = some (.inr (4, [.ref (v + 8), .ref (v + 9), .int v_tc]))) (g47 : hp (v + 8) = some (.inl (kC E 0, 300, .inl v_en))) (g48 : hp (v + 9) = some (.inl (kC E 0, 432, .inl v_fr))) (g49 : hp (v + 10) = some (.inr (6, [.ref (v + 11), .ref (v + 12), .int v_oc]))) (g50 : hp (v + 11) = some (.inl (kC E 0, 36, .inl v_op))) (g51 : hp (v + 12) = some (.inl (kC E 0, 36, .inl v_os))) (hvv : rws (Int32.toNatClampNeg nx) = some v) (hlv : (x + 20) ≤ v) (huv : (v + 13) ≤ (x + 124)) (h : f_X10_setWeight N sd mn th dc fc pc ln lt tc en fr oc op os dw nx dp v_sd v_mn v_th v_dc v_fc v_dw v_pc v_ln v_lt v_tc v_en v_fr v_oc v_op v_os a0 a1 a2 = some out) : AX E l yX10_setWeight cX10_setWeight 5 (Option.some Jvm.ClassFile.FieldType.int) ⟨8, 4, 24, 126⟩ [.ref x, .int a0, .int a1, .int a2] hp al (P_X10_setWeight E x v hp al out) (kThr out hp) := by
  refine A_ofX (by decide +kernel) (Nat.le_of_ble_eq_true rfl) ?_
  intro p e s m args below meth c X hr htb
  have X : CX E p l s m args meth c "DiceAudit" cX10_setWeight 5 := X
  refine A_L (L' := [(0, .ref x), (1, .int a0), (2, .int a1), (3, .int a2)]) rfl ?_
  unfold f_X10_setWeight at h
  refine A_aload_n X dX10_setWeight_0 0 rfl ?_
  refine A_iload_n X dX10_setWeight_1 1 rfl ?_
  rcases sbd_o h with ⟨c9, hc9, rfl⟩ | ⟨t1, hct1, h⟩
  · exact A_cX (k' := 1) (n' := 6) rfl rfl (A_runVX (rest := []) X dX10_setWeight_2 (c_X10_requireDie g0 g3 g4  hc9) kY_X10_requireDie kw_958 g0 rfl rfl ⟨(Nat.le_of_ble_eq_true rfl), (Nat.le_of_ble_eq_true rfl), (Nat.le_of_ble_eq_true rfl), (Nat.le_of_ble_eq_true rfl)⟩ rfl (Nat.le_of_ble_eq_true rfl)) (fun C hp1 hP => by obtain ⟨hC, rfl⟩ := hP; cases hC; exact A_out X htb ⟨rfl, rfl⟩ (Nat.le_of_ble_eq_true rfl) (Nat.le_of_ble_eq_true rfl)) (fun v hp1 al1 hP => by obtain ⟨u, hu, _⟩ := hP; cases hu)
  refine A_cX (k' := 1) (n' := 6) rfl rfl (A_runVX (rest := []) X dX10_setWeight_2 (c_X10_requireDie g0 g3 g4  hct1) kY_X10_requireDie kw_958 g0 rfl rfl ⟨(Nat.le_of_ble_eq_true rfl), (Nat.le_of_ble_eq_true rfl), (Nat.le_of_ble_eq_true rfl), (Nat.le_of_ble_eq_true rfl)⟩ rfl (Nat.le_of_ble_eq_true rfl)) (fun C hp1 hP => by obtain ⟨hC, _⟩ := hP; cases hC) (fun v9 hp1 al9 hP => ?_)
  obtain ⟨u9, hu9, rfl, rfl, rfl⟩ := hP
  cases hu9
  refine A_st (st' := []) rfl ?_
  refine A_aload_n X dX10_setWeight_5 0 rfl ?_
  refine A_iload_n X dX10_setWeight_6 1 rfl ?_
  refine A_iload_n X dX10_setWeight_7 2 rfl ?_
  rcases sbd_o h with ⟨c9, hc9, rfl⟩ | ⟨t2, hct2, h⟩
  · exact A_cX (k' := 2) (n' := 12) rfl rfl (A_runVX (rest := []) X dX10_setWeight_8 (c_X10_requireFace g0 g3 g4 g5  hc9) kY_X10_requireFace kw_989 g0 rfl rfl ⟨(Nat.le_of_ble_eq_true rfl), (Nat.le_of_ble_eq_true rfl), (Nat.le_of_ble_eq_true rfl), (Nat.le_of_ble_eq_true rfl)⟩ rfl (Nat.le_of_ble_eq_true rfl)) (fun C hp1 hP => by obtain ⟨hC, rfl⟩ := hP; cases hC; exact A_out X htb ⟨rfl, rfl⟩ (Nat.le_of_ble_eq_true rfl) (Nat.le_of_ble_eq_true rfl)) (fun v hp1 al1 hP => by obtain ⟨u, hu, _⟩ := hP; cases hu)
  refine A_cX (k' := 2) (n' := 12) rfl rfl (A_runVX (rest := []) X dX10_setWeight_8 (c_X10_requireFace g0 g3 g4 g5  hct2) kY_X10_requireFace kw_989 g0 rfl rfl ⟨(Nat.le_of_ble_eq_true rfl), (Nat.le_of_ble_eq_true rfl), (Nat.le_of_ble_eq_true rfl), (Nat.le_of_ble_eq_true rfl)⟩ rfl (Nat.le_of_ble_eq_true rfl)) (fun C hp1 hP => by obtain ⟨hC, _⟩ := hP; cases hC) (fun v9 hp1 al9 hP => ?_)
  obtain ⟨u9, hu9, rfl, rfl, rfl⟩ := hP
  cases hu9
  refine A_st (st' := []) rfl ?_
  refine A_iload_n X dX10_setWeight_11 3 rfl ?_
  refine A_iconst (v := 0) X dX10_setWeight_12 (by decide) ?_
  refine A_bipush (v := 9) X dX10_setWeight_13 (by decide) ?_
  rcases sbd_o h with ⟨c9, hc9, rfl⟩ | ⟨t3, hct3, h⟩
  · exact A_cX (k' := 3) (n' := 18) rfl rfl (A_runSX (rest := []) X dX10_setWeight_15 (c_X10_requireRange   hc9) kY_X10_requireRange kw_923 ⟨(Nat.le_of_ble_eq_true rfl), (Nat.le_of_ble_eq_true rfl), (Nat.le_of_ble_eq_true rfl), (Nat.le_of_ble_eq_true rfl)⟩ rfl (Nat.le_of_ble_eq_true rfl)) (fun C hp1 hP => by obtain ⟨hC, rfl⟩ := hP; cases hC; exact A_out X htb ⟨rfl, rfl⟩ (Nat.le_of_ble_eq_true rfl) (Nat.le_of_ble_eq_true rfl)) (fun v hp1 al1 hP => by obtain ⟨u, hu, _⟩ := hP; cases hu)
  refine A_cX (k' := 3) (n' := 18) rfl rfl (A_runSX (rest := []) X dX10_setWeight_15 (c_X10_requireRange   hct3) kY_X10_requireRange kw_923 ⟨(Nat.le_of_ble_eq_true rfl), (Nat.le_of_ble_eq_true rfl), (Nat.le_of_ble_eq_true rfl), (Nat.le_of_ble_eq_true rfl)⟩ rfl (Nat.le_of_ble_eq_true rfl)) (fun C hp1 hP => by obtain ⟨hC, _⟩ := hP; cases hC) (fun v9 hp1 al9 hP => ?_)
  obtain ⟨u9, hu9, rfl, rfl, rfl⟩ := hP
  cases hu9
  refine A_st (st' := []) rfl ?_
  refine A_aload_n X dX10_setWeight_18 0 rfl ?_
  refine A_get X dX10_setWeight_19 kcl_X10 3 (by decide) kw_654 g0 rfl ?_
  refine A_get X dX10_setWeight_22 kcl_X2 0 (by decide) kw_142 g3 rfl ?_
  refine A_iload_n X dX10_setWeight_25 1 rfl ?_
  refine A_iload_n X dX10_setWeight_26 2 rfl ?_
  obtain ⟨t4, hct4, h⟩ := bind_o h
  refine A_cp (k' := 3) (n' := 18) (A_runV (rest := []) X dX10_setWeight_27 (c_X0_weight g4 g6  hct4) kY_X0_weight kw_993 g4 rfl rfl ⟨(Nat.le_of_ble_eq_true rfl), (Nat.le_of_ble_eq_true rfl), (Nat.le_of_ble_eq_true rfl), (Nat.le_of_ble_eq_true rfl)⟩ rfl (Nat.le_of_ble_eq_true rfl)) rfl rfl ?_
  refine A_istore (L' := [(4, .int t4), (0, .ref x), (1, .int a0), (2, .int a1), (3, .int a2)]) X dX10_setWeight_30 (by decide) rfl ?_
  refine A_aload_n X dX10_setWeight_32 1 rfl ?_
  refine A_get X dX10_setWeight_33 kcl_X10 3 (by decide) kw_654 g0 rfl ?_
  refine A_get X dX10_setWeight_36 kcl_X2 0 (by decide) kw_142 g3 rfl ?_
  refine A_iload_n X dX10_setWeight_39 2 rfl ?_
  obtain ⟨t5, hct5, h⟩ := bind_o h
  refine A_cp (k' := 3) (n' := 18) (A_runV (rest := []) X dX10_setWeight_40 (c_X0_weightSum g4 g5 g6  hct5) kY_X0_weightSum kw_1336 g4 rfl rfl ⟨(Nat.le_of_ble_eq_true rfl), (Nat.le_of_ble_eq_true rfl), (Nat.le_of_ble_eq_true rfl), (Nat.le_of_ble_eq_true rfl)⟩ rfl (Nat.le_of_ble_eq_true rfl)) rfl rfl ?_
  refine A_iload X dX10_setWeight_43 0 rfl ?_
  refine A_isub X dX10_setWeight_45 ?_
  refine A_iload_n X dX10_setWeight_46 4 rfl ?_
  refine A_iadd X dX10_setWeight_47 ?_
  refine A_if_ne (tgt := 62) X dX10_setWeight_48 h (by decide) (fun hc h => ?_) (fun hc h => ?_)
  · refine A_aload_n X dX10_setWeight_62 1 rfl ?_
    refine A_get X dX10_setWeight_63 kcl_X10 5 (by decide) kw_656 g0 rfl ?_
    refine A_aload_n X dX10_setWeight_66 1 rfl ?_
    refine A_get X dX10_setWeight_67 kcl_X10 3 (by decide) kw_654 g0 rfl ?_
    obtain ⟨t6, hct6, h⟩ := bind_o h
    refine A_c (k' := 3) (n' := 18) rfl rfl (A_runV (rest := []) X dX10_setWeight_70 (c_X3_remember g18 g19 g3 g4 g5 g6 g7 g8 g9 g10 g11 g12 g13 g14 g15 g39 g40 g41 g42 g43 g44 g45 g46 g47 g48 g49 g50 g51 hvv (by omega) (by omega) (by omega) (by omega) hct6) kY_X3_remember kw_778 g18 rfl rfl ⟨(Nat.le_of_ble_eq_true rfl), (Nat.le_of_ble_eq_true rfl), (Nat.le_of_ble_eq_true rfl), (Nat.le_of_ble_eq_true rfl)⟩ rfl (Nat.le_of_ble_eq_true rfl)) (fun v9 hp1 al9 hP => ?_)
    obtain ⟨rfl, k1_0, k1_1, k1_2, k1_3, k1_4, k1_5, k1_6, k1_7, k1_8, k1_9, k1_10, k1_11, k1_12, k1_13, n1, rfl⟩ := hP
    replace k1_0 : hp1 (x + 18) = some (.inr (3, [.ref (x + 19), .int t6.1, .int t6.2.1])) := k1_0
    replace k1_1 : hp1 v = some (.inr (2, [.ref (v + 1), .ref (v + 4), .ref (v + 7), .ref (v + 10), .int t6.2.2.1, .int t6.2.2.2.1, .int t6.2.2.2.2.1])) := k1_1
    replace k1_2 : hp1 (v + 1) = some (.inr (0, [.ref (v + 2), .ref (v + 3), .int t6.2.2.2.2.2.1])) := k1_2
    replace k1_3 : hp1 (v + 2) = some (.inl (kC E 0, 6, .inl t6.2.2.2.2.2.2.1)) := k1_3
    replace k1_4 : hp1 (v + 3) = some (.inl (kC E 0, 72, .inl t6.2.2.2.2.2.2.2.1)) := k1_4
    replace k1_5 : hp1 (v + 4) = some (.inr (7, [.ref (v + 5), .ref (v + 6), .int t6.2.2.2.2.2.2.2.2.1])) := k1_5
    replace k1_6 : hp1 (v + 5) = some (.inl (kC E 0, 6, .inl t6.2.2.2.2.2.2.2.2.2.1)) := k1_6
    replace k1_7 : hp1 (v + 6) = some (.inl (kC E 0, 24, .inl t6.2.2.2.2.2.2.2.2.2.2.1)) := k1_7
    replace k1_8 : hp1 (v + 7) = some (.inr (4, [.ref (v + 8), .ref (v + 9), .int t6.2.2.2.2.2.2.2.2.2.2.2.1])) := k1_8
    replace k1_9 : hp1 (v + 8) = some (.inl (kC E 0, 300, .inl t6.2.2.2.2.2.2.2.2.2.2.2.2.1)) := k1_9
    replace k1_10 : hp1 (v + 9) = some (.inl (kC E 0, 432, .inl t6.2.2.2.2.2.2.2.2.2.2.2.2.2.1)) := k1_10
    replace k1_11 : hp1 (v + 10) = some (.inr (6, [.ref (v + 11), .ref (v + 12), .int t6.2.2.2.2.2.2.2.2.2.2.2.2.2.2.1])) := k1_11
    replace k1_12 : hp1 (v + 11) = some (.inl (kC E 0, 36, .inl t6.2.2.2.2.2.2.2.2.2.2.2.2.2.2.2.1)) := k1_12
    replace k1_13 : hp1 (v + 12) = some (.inl (kC E 0, 36, .inl t6.2.2.2.2.2.2.2.2.2.2.2.2.2.2.2.2)) := k1_13
    refine A_st (st' := []) rfl ?_
    refine A_aload_n X dX10_setWeight_73 1 rfl ?_
    refine A_get X dX10_setWeight_74 kcl_X10 3 (by decide) kw_654 ((n1 _ (by omega) (by omega) (by omega) (by omega) (by omega) (by omega) (by omega) (by omega) (by omega) (by omega) (by omega) (by omega) (by omega) (by omega)).trans g0) rfl ?_
    refine A_get X dX10_setWeight_77 kcl_X2 0 (by decide) kw_142 ((n1 _ (by omega) (by omega) (by omega) (by omega) (by omega) (by omega) (by omega) (by omega) (by omega) (by omega) (by omega) (by omega) (by omega) (by omega)).trans g3) rfl ?_
    refine A_iload_n X dX10_setWeight_80 2 rfl ?_
    refine A_iload_n X dX10_setWeight_81 3 rfl ?_
    refine A_iload_n X dX10_setWeight_82 4 rfl ?_
    obtain ⟨t7, hct7, h⟩ := bind_o h
    refine A_c (k' := 3) (n' := 18) rfl rfl (A_runV (rest := []) X dX10_setWeight_83 (c_X0_putWeight ((n1 _ (by omega) (by omega) (by omega) (by omega) (by omega) (by omega) (by omega) (by omega) (by omega) (by omega) (by omega) (by omega) (by omega) (by omega)).trans g4) ((n1 _ (by omega) (by omega) (by omega) (by omega) (by omega) (by omega) (by omega) (by omega) (by omega) (by omega) (by omega) (by omega) (by omega) (by omega)).trans g6)  hct7) kY_X0_putWeight kw_1341 ((n1 _ (by omega) (by omega) (by omega) (by omega) (by omega) (by omega) (by omega) (by omega) (by omega) (by omega) (by omega) (by omega) (by omega) (by omega)).trans g4) rfl rfl ⟨(Nat.le_of_ble_eq_true rfl), (Nat.le_of_ble_eq_true rfl), (Nat.le_of_ble_eq_true rfl), (Nat.le_of_ble_eq_true rfl)⟩ rfl (Nat.le_of_ble_eq_true rfl)) (fun v9 hp2 al9 hP => ?_)
    obtain ⟨rfl, k2_0, n2, rfl⟩ := hP
    replace k2_0 : hp2 (x + 6) = some (.inl (kC E 0, 72, .inl t7)) := k2_0
    refine A_st (st' := []) rfl ?_
    refine A_iload X dX10_setWeight_86 0 rfl ?_
    cases h
    exact A_iretX X dX10_setWeight_88 hr ⟨_, rfl, rfl, k2_0, ((n2 _ (by omega)).trans k1_0), ((n2 _ (by omega)).trans k1_1), ((n2 _ (by omega)).trans k1_2), ((n2 _ (by omega)).trans k1_3), ((n2 _ (by omega)).trans k1_4), ((n2 _ (by omega)).trans k1_5), ((n2 _ (by omega)).trans k1_6), ((n2 _ (by omega)).trans k1_7), ((n2 _ (by omega)).trans k1_8), ((n2 _ (by omega)).trans k1_9), ((n2 _ (by omega)).trans k1_10), ((n2 _ (by omega)).trans k1_11), ((n2 _ (by omega)).trans k1_12), ((n2 _ (by omega)).trans k1_13), (fun q z0 z1 z2 z3 z4 z5 z6 z7 z8 z9 z10 z11 z12 z13 z14 => ((n2 q z0).trans (n1 q z1 z2 z3 z4 z5 z6 z7 z8 z9 z10 z11 z12 z13 z14))), rfl⟩ (Nat.le_of_ble_eq_true rfl) (Nat.le_of_ble_eq_true rfl)
  · cases h
    exact A_throwSW (names := ["java/lang/RuntimeException", "java/lang/Exception"]) X htb (by decide +kernel) (by decide +kernel) kw_843 kw_23 (List.mem_of_getElem? (i := 24) rfl) xa_X10_86 xg_X10_86 dX10_setWeight_51 dX10_setWeight_54 dX10_setWeight_55 dX10_setWeight_58 dX10_setWeight_61 (Nat.le_of_ble_eq_true rfl) (Nat.le_of_ble_eq_true rfl) (Nat.le_of_ble_eq_true rfl) (Nat.le_of_ble_eq_true rfl) ⟨rfl, rfl⟩ (Nat.le_of_ble_eq_true rfl) (Nat.le_of_ble_eq_true rfl)
abbrev P_X10_setSeed (E : KE) (x : Nat) (v : Nat) (mn : Int32) (th : Int32) (hp : Hp) (al : Option Nat) (out : String ⊕ (Int32 × Int32 × Int32 × Int32 × Int32 × Int32 × Int32 × Int32 × (Nat → Int32) × (Nat → Int32) × Int32 × (Nat → Int32) × (Nat → Int32) × Int32 × (Nat → Int32) × (Nat → Int32) × Int32 × (Nat → Int32) × (Nat → Int32))) : Option Value → Hp → Option Nat → Prop := fun v0 hp' al' => ∃ u, out = .inr u ∧ v0 = some (.int u.1) ∧ hp' (x + 3) = some (.inr (2, [.ref (x + 4), .ref (x + 7), .ref (x + 10), .ref (x + 13), .int u.2.1, .int mn, .int th])) ∧ hp' (x + 18) = some (.inr (3, [.ref (x + 19), .int u.2.2.1, .int u.2.2.2.1])) ∧ hp' v = some (.inr (2, [.ref (v + 1), .ref (v + 4), .ref (v + 7), .ref (v + 10), .int u.2.2.2.2.1, .int u.2.2.2.2.2.1, .int u.2.2.2.2.2.2.1])) ∧ hp' (v + 1) = some (.inr (0, [.ref (v + 2), .ref (v + 3), .int u.2.2.2.2.2.2.2.1])) ∧ hp' (v + 2) = some (.inl (kC E 0, 6, .inl u.2.2.2.2.2.2.2.2.1)) ∧ hp' (v + 3) = some (.inl (kC E 0, 72, .inl u.2.2.2.2.2.2.2.2.2.1)) ∧ hp' (v + 4) = some (.inr (7, [.ref (v + 5), .ref (v + 6), .int u.2.2.2.2.2.2.2.2.2.2.1])) ∧ hp' (v + 5) = some (.inl (kC E 0, 6, .inl u.2.2.2.2.2.2.2.2.2.2.2.1)) ∧ hp' (v + 6) = some (.inl (kC E 0, 24, .inl u.2.2.2.2.2.2.2.2.2.2.2.2.1)) ∧ hp' (v + 7) = some (.inr (4, [.ref (v + 8), .ref (v + 9), .int u.2.2.2.2.2.2.2.2.2.2.2.2.2.1])) ∧ hp' (v + 8) = some (.inl (kC E 0, 300, .inl u.2.2.2.2.2.2.2.2.2.2.2.2.2.2.1)) ∧ hp' (v + 9) = some (.inl (kC E 0, 432, .inl u.2.2.2.2.2.2.2.2.2.2.2.2.2.2.2.1)) ∧ hp' (v + 10) = some (.inr (6, [.ref (v + 11), .ref (v + 12), .int u.2.2.2.2.2.2.2.2.2.2.2.2.2.2.2.2.1])) ∧ hp' (v + 11) = some (.inl (kC E 0, 36, .inl u.2.2.2.2.2.2.2.2.2.2.2.2.2.2.2.2.2.1)) ∧ hp' (v + 12) = some (.inl (kC E 0, 36, .inl u.2.2.2.2.2.2.2.2.2.2.2.2.2.2.2.2.2.2)) ∧ (∀ q, q ≠ (x + 3) → q ≠ (x + 18) → q ≠ v → q ≠ (v + 1) → q ≠ (v + 2) → q ≠ (v + 3) → q ≠ (v + 4) → q ≠ (v + 5) → q ≠ (v + 6) → q ≠ (v + 7) → q ≠ (v + 8) → q ≠ (v + 9) → q ≠ (v + 10) → q ≠ (v + 11) → q ≠ (v + 12) → hp' q = hp q) ∧ al = al'
def f_X10_setSeed (mn : Int32) (th : Int32) (dc : Int32) (fc : Nat → Int32) (dw : Nat → Int32) (pc : Int32) (ln : Nat → Int32) (lt : Nat → Int32) (tc : Int32) (en : Nat → Int32) (fr : Nat → Int32) (oc : Int32) (op : Nat → Int32) (os : Nat → Int32) (sd : Int32) (nx : Int32) (dp : Int32) (v_sd : Int32) (v_mn : Int32) (v_th : Int32) (v_dc : Int32) (v_fc : Nat → Int32) (v_dw : Nat → Int32) (v_pc : Int32) (v_ln : Nat → Int32) (v_lt : Nat → Int32) (v_tc : Int32) (v_en : Nat → Int32) (v_fr : Nat → Int32) (v_oc : Int32) (v_op : Nat → Int32) (v_os : Nat → Int32) (a0 : Int32) : Option (String ⊕ (Int32 × Int32 × Int32 × Int32 × Int32 × Int32 × Int32 × Int32 × (Nat → Int32) × (Nat → Int32) × Int32 × (Nat → Int32) × (Nat → Int32) × Int32 × (Nat → Int32) × (Nat → Int32) × Int32 × (Nat → Int32) × (Nat → Int32))) :=
  sbd (f_X10_requireRange a0 0 65536) fun t1 =>
  (f_X3_remember sd mn th dc fc dw pc ln lt tc en fr oc op os nx dp v_sd v_mn v_th v_dc v_fc v_dw v_pc v_ln v_lt v_tc v_en v_fr v_oc v_op v_os).bind fun t2 =>
  some (.inr (sd, a0, t2.1, t2.2.1, t2.2.2.1, t2.2.2.2.1, t2.2.2.2.2.1, t2.2.2.2.2.2.1, t2.2.2.2.2.2.2.1, t2.2.2.2.2.2.2.2.1, t2.2.2.2.2.2.2.2.2.1, t2.2.2.2.2.2.2.2.2.2.1, t2.2.2.2.2.2.2.2.2.2.2.1, t2.2.2.2.2.2.2.2.2.2.2.2.1, t2.2.2.2.2.2.2.2.2.2.2.2.2.1, t2.2.2.2.2.2.2.2.2.2.2.2.2.2.1, t2.2.2.2.2.2.2.2.2.2.2.2.2.2.2.1, t2.2.2.2.2.2.2.2.2.2.2.2.2.2.2.2.1, t2.2.2.2.2.2.2.2.2.2.2.2.2.2.2.2.2))
set_option maxHeartbeats 4000000 in
set_option maxRecDepth 100000 in
theorem c_X10_setSeed {E : KE} {l : Launch} {hp : Hp} {al : Option Nat} {x : Nat} {v : Nat} {sd : Int32} {mn : Int32} {th : Int32} {dc : Int32} {fc : Nat → Int32} {dw : Nat → Int32} {pc : Int32} {ln : Nat → Int32} {lt : Nat → Int32} {tc : Int32} {en : Nat → Int32} {fr : Nat → Int32} {oc : Int32} {op : Nat → Int32} {os : Nat → Int32} {nx : Int32} {dp : Int32} {rws : Nat → Option Nat} {v_sd : Int32} {v_mn : Int32} {v_th : Int32} {v_dc : Int32} {v_fc : Nat → Int32} {v_dw : Nat → Int32} {v_pc : Int32} {v_ln : Nat → Int32} {v_lt : Nat → Int32} {v_tc : Int32} {v_en : Nat → Int32} {v_fr : Nat → Int32} {v_oc : Int32} {v_op : Nat → Int32} {v_os : Nat → Int32} {a0 : Int32} {out : String ⊕ (Int32 × Int32 × Int32 × Int32 × Int32 × Int32 × Int32 × Int32 × (Nat → Int32) × (Nat → Int32) × Int32 × (Nat → Int32) × (Nat → Int32) × Int32 × (Nat → Int32) × (Nat → Int32) × Int32 × (Nat → Int32) × (Nat → Int32))} (g0 : hp x = some (.inr (10, [.ref (x + 126), .ref (x + 128), .ref (x + 1), .ref (x + 3), .ref (x + 16), .ref (x + 18), .ref (x + 124), .ref (x + 125)]))) (g3 : hp (x + 3) = some (.inr (2, [.ref (x + 4), .ref (x + 7), .ref (x + 10), .ref (x + 13), .int sd, .int mn, .int th]))) (g4 : hp (x + 4) = some (.inr (0, [.ref (x + 5), .ref (x + 6), .int dc]))) (g5 : hp (x + 5) = some (.inl (kC E 0, 6, .inl fc))) (g6 : hp (x + 6) = some (.inl (kC E 0, 72, .inl dw))) (g7 : hp (x + 7) = some (.inr (7, [.ref (x + 8), .ref (x + 9), .int pc]))) (g8 : hp (x + 8) = some (.inl (kC E 0, 6, .inl ln))) (g9 : hp (x + 9) = some (.inl (kC E 0, 24, .inl lt))) (g10 : hp (x + 10) = some (.inr (4, [.ref (x + 11), .ref (x + 12), .int tc]))) (g11 : hp (x + 11) = some (.inl (kC E 0, 300, .inl en))) (g12 : hp (x + 12) = some (.inl (kC E 0, 432, .inl fr))) (g13 : hp (x + 13) = some (.inr (6, [.ref (x + 14), .ref (x + 15), .int oc]))) (g14 : hp (x + 14) = some (.inl (kC E 0, 36, .inl op))) (g15 : hp (x + 15) = some (.inl (kC E 0, 36, .inl os))) (g18 : hp (x + 18) = some (.inr (3, [.ref (x + 19), .int nx, .int dp]))) (g19 : hp (x + 19) = some (.inl (kC E 5, 8, .inr (.inr (.inr (.inr rws)))))) (g39 : hp v = some (.inr (2, [.ref (v + 1), .ref (v + 4), .ref (v + 7), .ref (v + 10), .int v_sd, .int v_mn, .int v_th]))) (g40 : hp (v + 1) = some (.inr (0, [.ref (v + 2), .ref (v + 3), .int v_dc]))) (g41 : hp (v + 2) = some (.inl (kC E 0, 6, .inl v_fc))) (g42 : hp (v + 3) = some (.inl (kC E 0, 72, .inl v_dw))) (g43 : hp (v + 4) = some (.inr (7, [.ref (v + 5), .ref (v + 6), .int v_pc]))) (g44 : hp (v + 5) = some (.inl (kC E 0, 6, .inl v_ln))) (g45 : hp (v + 6) = some (.inl (kC E 0, 24, .inl v_lt))) (g46 : hp (v + 7) = some (.inr (4, [.ref (v + 8), .ref (v + 9), .int v_tc]))) (g47 : hp (v + 8) = some (.inl (kC E 0, 300, .inl v_en))) (g48 : hp (v + 9) = some (.inl (kC E 0, 432, .inl v_fr))) (g49 : hp (v + 10) = some (.inr (6, [.ref (v + 11), .ref (v + 12), .int v_oc]))) (g50 : hp (v + 11) = some (.inl (kC E 0, 36, .inl v_op))) (g51 : hp (v + 12) = some (.inl (kC E 0, 36, .inl v_os))) (hvv : rws (Int32.toNatClampNeg nx) = some v) (hlv : (x + 20) ≤ v) (huv : (v + 13) ≤ (x + 124)) (h : f_X10_setSeed mn th dc fc dw pc ln lt tc en fr oc op os sd nx dp v_sd v_mn v_th v_dc v_fc v_dw v_pc v_ln v_lt v_tc v_en v_fr v_oc v_op v_os a0 = some out) : AX E l yX10_setSeed cX10_setSeed 3 (Option.some Jvm.ClassFile.FieldType.int) ⟨7, 1, 6, 104⟩ [.ref x, .int a0] hp al (P_X10_setSeed E x v mn th hp al out) (kThr out hp) := by
  refine A_ofX (by decide +kernel) (Nat.le_of_ble_eq_true rfl) ?_
  intro p e s m args below meth c X hr htb
  have X : CX E p l s m args meth c "DiceAudit" cX10_setSeed 3 := X
  refine A_L (L' := [(0, .ref x), (1, .int a0)]) rfl ?_
  unfold f_X10_setSeed at h
  refine A_iload_n X dX10_setSeed_0 1 rfl ?_
  refine A_iconst (v := 0) X dX10_setSeed_1 (by decide) ?_
  refine A_ldcwi X dX10_setSeed_2 kw_1349 ?_
  rcases sbd_o h with ⟨c9, hc9, rfl⟩ | ⟨t1, hct1, h⟩
  · exact A_cX (k' := 1) (n' := 6) rfl rfl (A_runSX (rest := []) X dX10_setSeed_5 (c_X10_requireRange   hc9) kY_X10_requireRange kw_923 ⟨(Nat.le_of_ble_eq_true rfl), (Nat.le_of_ble_eq_true rfl), (Nat.le_of_ble_eq_true rfl), (Nat.le_of_ble_eq_true rfl)⟩ rfl (Nat.le_of_ble_eq_true rfl)) (fun C hp1 hP => by obtain ⟨hC, rfl⟩ := hP; cases hC; exact A_out X htb ⟨rfl, rfl⟩ (Nat.le_of_ble_eq_true rfl) (Nat.le_of_ble_eq_true rfl)) (fun v hp1 al1 hP => by obtain ⟨u, hu, _⟩ := hP; cases hu)
  refine A_cX (k' := 1) (n' := 6) rfl rfl (A_runSX (rest := []) X dX10_setSeed_5 (c_X10_requireRange   hct1) kY_X10_requireRange kw_923 ⟨(Nat.le_of_ble_eq_true rfl), (Nat.le_of_ble_eq_true rfl), (Nat.le_of_ble_eq_true rfl), (Nat.le_of_ble_eq_true rfl)⟩ rfl (Nat.le_of_ble_eq_true rfl)) (fun C hp1 hP => by obtain ⟨hC, _⟩ := hP; cases hC) (fun v9 hp1 al9 hP => ?_)
  obtain ⟨u9, hu9, rfl, rfl, rfl⟩ := hP
  cases hu9
  refine A_st (st' := []) rfl ?_
  refine A_aload_n X dX10_setSeed_8 0 rfl ?_
  refine A_get X dX10_setSeed_9 kcl_X10 5 (by decide) kw_656 g0 rfl ?_
  refine A_aload_n X dX10_setSeed_12 0 rfl ?_
  refine A_get X dX10_setSeed_13 kcl_X10 3 (by decide) kw_654 g0 rfl ?_
  obtain ⟨t2, hct2, h⟩ := bind_o h
  refine A_c (k' := 1) (n' := 6) rfl rfl (A_runV (rest := []) X dX10_setSeed_16 (c_X3_remember g18 g19 g3 g4 g5 g6 g7 g8 g9 g10 g11 g12 g13 g14 g15 g39 g40 g41 g42 g43 g44 g45 g46 g47 g48 g49 g50 g51 hvv (by omega) (by omega) (by omega) (by omega) hct2) kY_X3_remember kw_778 g18 rfl rfl ⟨(Nat.le_of_ble_eq_true rfl), (Nat.le_of_ble_eq_true rfl), (Nat.le_of_ble_eq_true rfl), (Nat.le_of_ble_eq_true rfl)⟩ rfl (Nat.le_of_ble_eq_true rfl)) (fun v9 hp1 al9 hP => ?_)
  obtain ⟨rfl, k1_0, k1_1, k1_2, k1_3, k1_4, k1_5, k1_6, k1_7, k1_8, k1_9, k1_10, k1_11, k1_12, k1_13, n1, rfl⟩ := hP
  replace k1_0 : hp1 (x + 18) = some (.inr (3, [.ref (x + 19), .int t2.1, .int t2.2.1])) := k1_0
  replace k1_1 : hp1 v = some (.inr (2, [.ref (v + 1), .ref (v + 4), .ref (v + 7), .ref (v + 10), .int t2.2.2.1, .int t2.2.2.2.1, .int t2.2.2.2.2.1])) := k1_1
  replace k1_2 : hp1 (v + 1) = some (.inr (0, [.ref (v + 2), .ref (v + 3), .int t2.2.2.2.2.2.1])) := k1_2
  replace k1_3 : hp1 (v + 2) = some (.inl (kC E 0, 6, .inl t2.2.2.2.2.2.2.1)) := k1_3
  replace k1_4 : hp1 (v + 3) = some (.inl (kC E 0, 72, .inl t2.2.2.2.2.2.2.2.1)) := k1_4
  replace k1_5 : hp1 (v + 4) = some (.inr (7, [.ref (v + 5), .ref (v + 6), .int t2.2.2.2.2.2.2.2.2.1])) := k1_5
  replace k1_6 : hp1 (v + 5) = some (.inl (kC E 0, 6, .inl t2.2.2.2.2.2.2.2.2.2.1)) := k1_6
  replace k1_7 : hp1 (v + 6) = some (.inl (kC E 0, 24, .inl t2.2.2.2.2.2.2.2.2.2.2.1)) := k1_7
  replace k1_8 : hp1 (v + 7) = some (.inr (4, [.ref (v + 8), .ref (v + 9), .int t2.2.2.2.2.2.2.2.2.2.2.2.1])) := k1_8
  replace k1_9 : hp1 (v + 8) = some (.inl (kC E 0, 300, .inl t2.2.2.2.2.2.2.2.2.2.2.2.2.1)) := k1_9
  replace k1_10 : hp1 (v + 9) = some (.inl (kC E 0, 432, .inl t2.2.2.2.2.2.2.2.2.2.2.2.2.2.1)) := k1_10
  replace k1_11 : hp1 (v + 10) = some (.inr (6, [.ref (v + 11), .ref (v + 12), .int t2.2.2.2.2.2.2.2.2.2.2.2.2.2.2.1])) := k1_11
  replace k1_12 : hp1 (v + 11) = some (.inl (kC E 0, 36, .inl t2.2.2.2.2.2.2.2.2.2.2.2.2.2.2.2.1)) := k1_12
  replace k1_13 : hp1 (v + 12) = some (.inl (kC E 0, 36, .inl t2.2.2.2.2.2.2.2.2.2.2.2.2.2.2.2.2)) := k1_13
  refine A_st (st' := []) rfl ?_
  refine A_aload_n X dX10_setSeed_19 0 rfl ?_
  refine A_get X dX10_setSeed_20 kcl_X10 3 (by decide) kw_654 ((n1 _ (by omega) (by omega) (by omega) (by omega) (by omega) (by omega) (by omega) (by omega) (by omega) (by omega) (by omega) (by omega) (by omega) (by omega)).trans g0) rfl ?_
  refine A_get X dX10_setSeed_23 kcl_X2 4 (by decide) kw_155 ((n1 _ (by omega) (by omega) (by omega) (by omega) (by omega) (by omega) (by omega) (by omega) (by omega) (by omega) (by omega) (by omega) (by omega) (by omega)).trans g3) rfl ?_
  refine A_istore_n (L' := [(2, .int sd), (0, .ref x), (1, .int a0)]) X dX10_setSeed_26 rfl (by decide) rfl ?_
  refine A_aload_n X dX10_setSeed_27 1 rfl ?_
  refine A_get X dX10_setSeed_28 kcl_X10 3 (by decide) kw_654 ((n1 _ (by omega) (by omega) (by omega) (by omega) (by omega) (by omega) (by omega) (by omega) (by omega) (by omega) (by omega) (by omega) (by omega) (by omega)).trans g0) rfl ?_
  refine A_iload_n X dX10_setSeed_31 2 rfl ?_
  refine A_put X dX10_setSeed_32 kcl_X2 4 (by decide) kw_155 ((n1 _ (by omega) (by omega) (by omega) (by omega) (by omega) (by omega) (by omega) (by omega) (by omega) (by omega) (by omega) (by omega) (by omega) (by omega)).trans g3) rfl rfl rfl (by simp) (fun hp2 (k2 : hp2 (x + 3) = some (.inr (2, [.ref (x + 4), .ref (x + 7), .ref (x + 10), .ref (x + 13), .int a0, .int mn, .int th]))) n2 => ?_)
  refine A_iload_n X dX10_setSeed_35 0 rfl ?_
  cases h
  exact A_iretX X dX10_setSeed_36 hr ⟨_, rfl, rfl, k2, ((n2 _ (by omega)).trans k1_0), ((n2 _ (by omega)).trans k1_1), ((n2 _ (by omega)).trans k1_2), ((n2 _ (by omega)).trans k1_3), ((n2 _ (by omega)).trans k1_4), ((n2 _ (by omega)).trans k1_5), ((n2 _ (by omega)).trans k1_6), ((n2 _ (by omega)).trans k1_7), ((n2 _ (by omega)).trans k1_8), ((n2 _ (by omega)).trans k1_9), ((n2 _ (by omega)).trans k1_10), ((n2 _ (by omega)).trans k1_11), ((n2 _ (by omega)).trans k1_12), ((n2 _ (by omega)).trans k1_13), (fun q z0 z1 z2 z3 z4 z5 z6 z7 z8 z9 z10 z11 z12 z13 z14 => ((n2 q z0).trans (n1 q z1 z2 z3 z4 z5 z6 z7 z8 z9 z10 z11 z12 z13 z14))), rfl⟩ (Nat.le_of_ble_eq_true rfl) (Nat.le_of_ble_eq_true rfl)
abbrev P_X10_setLimits (E : KE) (x : Nat) (v : Nat) (sd : Int32) (hp : Hp) (al : Option Nat) (out : String ⊕ (Int32 × Int32 × Int32 × Int32 × Int32 × Int32 × Int32 × Int32 × Int32 × (Nat → Int32) × (Nat → Int32) × Int32 × (Nat → Int32) × (Nat → Int32) × Int32 × (Nat → Int32) × (Nat → Int32) × Int32 × (Nat → Int32) × (Nat → Int32))) : Option Value → Hp → Option Nat → Prop := fun v0 hp' al' => ∃ u, out = .inr u ∧ v0 = some (.int u.1) ∧ hp' (x + 3) = some (.inr (2, [.ref (x + 4), .ref (x + 7), .ref (x + 10), .ref (x + 13), .int sd, .int u.2.1, .int u.2.2.1])) ∧ hp' (x + 18) = some (.inr (3, [.ref (x + 19), .int u.2.2.2.1, .int u.2.2.2.2.1])) ∧ hp' v = some (.inr (2, [.ref (v + 1), .ref (v + 4), .ref (v + 7), .ref (v + 10), .int u.2.2.2.2.2.1, .int u.2.2.2.2.2.2.1, .int u.2.2.2.2.2.2.2.1])) ∧ hp' (v + 1) = some (.inr (0, [.ref (v + 2), .ref (v + 3), .int u.2.2.2.2.2.2.2.2.1])) ∧ hp' (v + 2) = some (.inl (kC E 0, 6, .inl u.2.2.2.2.2.2.2.2.2.1)) ∧ hp' (v + 3) = some (.inl (kC E 0, 72, .inl u.2.2.2.2.2.2.2.2.2.2.1)) ∧ hp' (v + 4) = some (.inr (7, [.ref (v + 5), .ref (v + 6), .int u.2.2.2.2.2.2.2.2.2.2.2.1])) ∧ hp' (v + 5) = some (.inl (kC E 0, 6, .inl u.2.2.2.2.2.2.2.2.2.2.2.2.1)) ∧ hp' (v + 6) = some (.inl (kC E 0, 24, .inl u.2.2.2.2.2.2.2.2.2.2.2.2.2.1)) ∧ hp' (v + 7) = some (.inr (4, [.ref (v + 8), .ref (v + 9), .int u.2.2.2.2.2.2.2.2.2.2.2.2.2.2.1])) ∧ hp' (v + 8) = some (.inl (kC E 0, 300, .inl u.2.2.2.2.2.2.2.2.2.2.2.2.2.2.2.1)) ∧ hp' (v + 9) = some (.inl (kC E 0, 432, .inl u.2.2.2.2.2.2.2.2.2.2.2.2.2.2.2.2.1)) ∧ hp' (v + 10) = some (.inr (6, [.ref (v + 11), .ref (v + 12), .int u.2.2.2.2.2.2.2.2.2.2.2.2.2.2.2.2.2.1])) ∧ hp' (v + 11) = some (.inl (kC E 0, 36, .inl u.2.2.2.2.2.2.2.2.2.2.2.2.2.2.2.2.2.2.1)) ∧ hp' (v + 12) = some (.inl (kC E 0, 36, .inl u.2.2.2.2.2.2.2.2.2.2.2.2.2.2.2.2.2.2.2)) ∧ (∀ q, q ≠ (x + 3) → q ≠ (x + 18) → q ≠ v → q ≠ (v + 1) → q ≠ (v + 2) → q ≠ (v + 3) → q ≠ (v + 4) → q ≠ (v + 5) → q ≠ (v + 6) → q ≠ (v + 7) → q ≠ (v + 8) → q ≠ (v + 9) → q ≠ (v + 10) → q ≠ (v + 11) → q ≠ (v + 12) → hp' q = hp q) ∧ al = al'
def f_X10_setLimits (N : Nat) (sd : Int32) (dc : Int32) (fc : Nat → Int32) (dw : Nat → Int32) (pc : Int32) (ln : Nat → Int32) (lt : Nat → Int32) (tc : Int32) (en : Nat → Int32) (fr : Nat → Int32) (oc : Int32) (op : Nat → Int32) (os : Nat → Int32) (mn : Int32) (th : Int32) (nx : Int32) (dp : Int32) (v_sd : Int32) (v_mn : Int32) (v_th : Int32) (v_dc : Int32) (v_fc : Nat → Int32) (v_dw : Nat → Int32) (v_pc : Int32) (v_ln : Nat → Int32) (v_lt : Nat → Int32) (v_tc : Int32) (v_en : Nat → Int32) (v_fr : Nat → Int32) (v_oc : Int32) (v_op : Nat → Int32) (v_os : Nat → Int32) (a0 : Int32) (a1 : Int32) : Option (String ⊕ (Int32 × Int32 × Int32 × Int32 × Int32 × Int32 × Int32 × Int32 × Int32 × (Nat → Int32) × (Nat → Int32) × Int32 × (Nat → Int32) × (Nat → Int32) × Int32 × (Nat → Int32) × (Nat → Int32) × Int32 × (Nat → Int32) × (Nat → Int32))) :=
  sbd (f_X10_requireRange a0 1 99) fun t1 =>
  sbd (f_X10_requireRange a1 0 999) fun t2 =>
  (f_X3_remember sd mn th dc fc dw pc ln lt tc en fr oc op os nx dp v_sd v_mn v_th v_dc v_fc v_dw v_pc v_ln v_lt v_tc v_en v_fr v_oc v_op v_os).bind fun t3 =>
  (f_X2_countSuspicious N a0 a1 fc fr).bind fun t4 =>
  some (.inr (t4, a0, a1, t3.1, t3.2.1, t3.2.2.1, t3.2.2.2.1, t3.2.2.2.2.1, t3.2.2.2.2.2.1, t3.2.2.2.2.2.2.1, t3.2.2.2.2.2.2.2.1, t3.2.2.2.2.2.2.2.2.1, t3.2.2.2.2.2.2.2.2.2.1, t3.2.2.2.2.2.2.2.2.2.2.1, t3.2.2.2.2.2.2.2.2.2.2.2.1, t3.2.2.2.2.2.2.2.2.2.2.2.2.1, t3.2.2.2.2.2.2.2.2.2.2.2.2.2.1, t3.2.2.2.2.2.2.2.2.2.2.2.2.2.2.1, t3.2.2.2.2.2.2.2.2.2.2.2.2.2.2.2.1, t3.2.2.2.2.2.2.2.2.2.2.2.2.2.2.2.2))
set_option maxHeartbeats 4000000 in
set_option maxRecDepth 100000 in
theorem c_X10_setLimits {E : KE} {l : Launch} {hp : Hp} {al : Option Nat} {N : Nat} {x : Nat} {v : Nat} {sd : Int32} {mn : Int32} {th : Int32} {dc : Int32} {fc : Nat → Int32} {dw : Nat → Int32} {pc : Int32} {ln : Nat → Int32} {lt : Nat → Int32} {tc : Int32} {en : Nat → Int32} {fr : Nat → Int32} {oc : Int32} {op : Nat → Int32} {os : Nat → Int32} {nx : Int32} {dp : Int32} {rws : Nat → Option Nat} {v_sd : Int32} {v_mn : Int32} {v_th : Int32} {v_dc : Int32} {v_fc : Nat → Int32} {v_dw : Nat → Int32} {v_pc : Int32} {v_ln : Nat → Int32} {v_lt : Nat → Int32} {v_tc : Int32} {v_en : Nat → Int32} {v_fr : Nat → Int32} {v_oc : Int32} {v_op : Nat → Int32} {v_os : Nat → Int32} {a0 : Int32} {a1 : Int32} {out : String ⊕ (Int32 × Int32 × Int32 × Int32 × Int32 × Int32 × Int32 × Int32 × Int32 × (Nat → Int32) × (Nat → Int32) × Int32 × (Nat → Int32) × (Nat → Int32) × Int32 × (Nat → Int32) × (Nat → Int32) × Int32 × (Nat → Int32) × (Nat → Int32))} (g0 : hp x = some (.inr (10, [.ref (x + 126), .ref (x + 128), .ref (x + 1), .ref (x + 3), .ref (x + 16), .ref (x + 18), .ref (x + 124), .ref (x + 125)]))) (g3 : hp (x + 3) = some (.inr (2, [.ref (x + 4), .ref (x + 7), .ref (x + 10), .ref (x + 13), .int sd, .int mn, .int th]))) (g4 : hp (x + 4) = some (.inr (0, [.ref (x + 5), .ref (x + 6), .int dc]))) (g5 : hp (x + 5) = some (.inl (kC E 0, 6, .inl fc))) (g6 : hp (x + 6) = some (.inl (kC E 0, 72, .inl dw))) (g7 : hp (x + 7) = some (.inr (7, [.ref (x + 8), .ref (x + 9), .int pc]))) (g8 : hp (x + 8) = some (.inl (kC E 0, 6, .inl ln))) (g9 : hp (x + 9) = some (.inl (kC E 0, 24, .inl lt))) (g10 : hp (x + 10) = some (.inr (4, [.ref (x + 11), .ref (x + 12), .int tc]))) (g11 : hp (x + 11) = some (.inl (kC E 0, 300, .inl en))) (g12 : hp (x + 12) = some (.inl (kC E 0, 432, .inl fr))) (g13 : hp (x + 13) = some (.inr (6, [.ref (x + 14), .ref (x + 15), .int oc]))) (g14 : hp (x + 14) = some (.inl (kC E 0, 36, .inl op))) (g15 : hp (x + 15) = some (.inl (kC E 0, 36, .inl os))) (g18 : hp (x + 18) = some (.inr (3, [.ref (x + 19), .int nx, .int dp]))) (g19 : hp (x + 19) = some (.inl (kC E 5, 8, .inr (.inr (.inr (.inr rws)))))) (g39 : hp v = some (.inr (2, [.ref (v + 1), .ref (v + 4), .ref (v + 7), .ref (v + 10), .int v_sd, .int v_mn, .int v_th]))) (g40 : hp (v + 1) = some (.inr (0, [.ref (v + 2), .ref (v + 3), .int v_dc]))) (g41 : hp (v + 2) = some (.inl (kC E 0, 6, .inl v_fc))) (g42 : hp (v + 3) = some (.inl (kC E 0, 72, .inl v_dw))) (g43 : hp (v + 4) = some (.inr (7, [.ref (v + 5), .ref (v + 6), .int v_pc]))) (g44 : hp (v + 5) = some (.inl (kC E 0, 6, .inl v_ln))) (g45 : hp (v + 6) = some (.inl (kC E 0, 24, .inl v_lt))) (g46 : hp (v + 7) = some (.inr (4, [.ref (v + 8), .ref (v + 9), .int v_tc]))) (g47 : hp (v + 8) = some (.inl (kC E 0, 300, .inl v_en))) (g48 : hp (v + 9) = some (.inl (kC E 0, 432, .inl v_fr))) (g49 : hp (v + 10) = some (.inr (6, [.ref (v + 11), .ref (v + 12), .int v_oc]))) (g50 : hp (v + 11) = some (.inl (kC E 0, 36, .inl v_op))) (g51 : hp (v + 12) = some (.inl (kC E 0, 36, .inl v_os))) (hvv : rws (Int32.toNatClampNeg nx) = some v) (hlv : (x + 20) ≤ v) (huv : (v + 13) ≤ (x + 124)) (h : f_X10_setLimits N sd dc fc dw pc ln lt tc en fr oc op os mn th nx dp v_sd v_mn v_th v_dc v_fc v_dw v_pc v_ln v_lt v_tc v_en v_fr v_oc v_op v_os a0 a1 = some out) : AX E l yX10_setLimits cX10_setLimits 3 (Option.some Jvm.ClassFile.FieldType.int) ⟨7, 2, 12, 116⟩ [.ref x, .int a0, .int a1] hp al (P_X10_setLimits E x v sd hp al out) (kThr out hp) := by
  refine A_ofX (by decide +kernel) (Nat.le_of_ble_eq_true rfl) ?_
  intro p e s m args below meth c X hr htb
  have X : CX E p l s m args meth c "DiceAudit" cX10_setLimits 3 := X
  refine A_L (L' := [(0, .ref x), (1, .int a0), (2, .int a1)]) rfl ?_
  unfold f_X10_setLimits at h
  refine A_iload_n X dX10_setLimits_0 1 rfl ?_
  refine A_iconst (v := 1) X dX10_setLimits_1 (by decide) ?_
  refine A_bipush (v := 99) X dX10_setLimits_2 (by decide) ?_
  rcases sbd_o h with ⟨c9, hc9, rfl⟩ | ⟨t1, hct1, h⟩
  · exact A_cX (k' := 1) (n' := 6) rfl rfl (A_runSX (rest := []) X dX10_setLimits_4 (c_X10_requireRange   hc9) kY_X10_requireRange kw_923 ⟨(Nat.le_of_ble_eq_true rfl), (Nat.le_of_ble_eq_true rfl), (Nat.le_of_ble_eq_true rfl), (Nat.le_of_ble_eq_true rfl)⟩ rfl (Nat.le_of_ble_eq_true rfl)) (fun C hp1 hP => by obtain ⟨hC, rfl⟩ := hP; cases hC; exact A_out X htb ⟨rfl, rfl⟩ (Nat.le_of_ble_eq_true rfl) (Nat.le_of_ble_eq_true rfl)) (fun v hp1 al1 hP => by obtain ⟨u, hu, _⟩ := hP; cases hu)
  refine A_cX (k' := 1) (n' := 6) rfl rfl (A_runSX (rest := []) X dX10_setLimits_4 (c_X10_requireRange   hct1) kY_X10_requireRange kw_923 ⟨(Nat.le_of_ble_eq_true rfl), (Nat.le_of_ble_eq_true rfl), (Nat.le_of_ble_eq_true rfl), (Nat.le_of_ble_eq_true rfl)⟩ rfl (Nat.le_of_ble_eq_true rfl)) (fun C hp1 hP => by obtain ⟨hC, _⟩ := hP; cases hC) (fun v9 hp1 al9 hP => ?_)
  obtain ⟨u9, hu9, rfl, rfl, rfl⟩ := hP
  cases hu9
  refine A_st (st' := []) rfl ?_
  refine A_iload_n X dX10_setLimits_7 2 rfl ?_
  refine A_iconst (v := 0) X dX10_setLimits_8 (by decide) ?_
  refine A_sipush (v := 999) X dX10_setLimits_9 (by decide) ?_
  rcases sbd_o h with ⟨c9, hc9, rfl⟩ | ⟨t2, hct2, h⟩
  · exact A_cX (k' := 2) (n' := 12) rfl rfl (A_runSX (rest := []) X dX10_setLimits_12 (c_X10_requireRange   hc9) kY_X10_requireRange kw_923 ⟨(Nat.le_of_ble_eq_true rfl), (Nat.le_of_ble_eq_true rfl), (Nat.le_of_ble_eq_true rfl), (Nat.le_of_ble_eq_true rfl)⟩ rfl (Nat.le_of_ble_eq_true rfl)) (fun C hp1 hP => by obtain ⟨hC, rfl⟩ := hP; cases hC; exact A_out X htb ⟨rfl, rfl⟩ (Nat.le_of_ble_eq_true rfl) (Nat.le_of_ble_eq_true rfl)) (fun v hp1 al1 hP => by obtain ⟨u, hu, _⟩ := hP; cases hu)
  refine A_cX (k' := 2) (n' := 12) rfl rfl (A_runSX (rest := []) X dX10_setLimits_12 (c_X10_requireRange   hct2) kY_X10_requireRange kw_923 ⟨(Nat.le_of_ble_eq_true rfl), (Nat.le_of_ble_eq_true rfl), (Nat.le_of_ble_eq_true rfl), (Nat.le_of_ble_eq_true rfl)⟩ rfl (Nat.le_of_ble_eq_true rfl)) (fun C hp1 hP => by obtain ⟨hC, _⟩ := hP; cases hC) (fun v9 hp1 al9 hP => ?_)
  obtain ⟨u9, hu9, rfl, rfl, rfl⟩ := hP
  cases hu9
  refine A_st (st' := []) rfl ?_
  refine A_aload_n X dX10_setLimits_15 0 rfl ?_
  refine A_get X dX10_setLimits_16 kcl_X10 5 (by decide) kw_656 g0 rfl ?_
  refine A_aload_n X dX10_setLimits_19 0 rfl ?_
  refine A_get X dX10_setLimits_20 kcl_X10 3 (by decide) kw_654 g0 rfl ?_
  obtain ⟨t3, hct3, h⟩ := bind_o h
  refine A_c (k' := 2) (n' := 12) rfl rfl (A_runV (rest := []) X dX10_setLimits_23 (c_X3_remember g18 g19 g3 g4 g5 g6 g7 g8 g9 g10 g11 g12 g13 g14 g15 g39 g40 g41 g42 g43 g44 g45 g46 g47 g48 g49 g50 g51 hvv (by omega) (by omega) (by omega) (by omega) hct3) kY_X3_remember kw_778 g18 rfl rfl ⟨(Nat.le_of_ble_eq_true rfl), (Nat.le_of_ble_eq_true rfl), (Nat.le_of_ble_eq_true rfl), (Nat.le_of_ble_eq_true rfl)⟩ rfl (Nat.le_of_ble_eq_true rfl)) (fun v9 hp1 al9 hP => ?_)
  obtain ⟨rfl, k1_0, k1_1, k1_2, k1_3, k1_4, k1_5, k1_6, k1_7, k1_8, k1_9, k1_10, k1_11, k1_12, k1_13, n1, rfl⟩ := hP
  replace k1_0 : hp1 (x + 18) = some (.inr (3, [.ref (x + 19), .int t3.1, .int t3.2.1])) := k1_0
  replace k1_1 : hp1 v = some (.inr (2, [.ref (v + 1), .ref (v + 4), .ref (v + 7), .ref (v + 10), .int t3.2.2.1, .int t3.2.2.2.1, .int t3.2.2.2.2.1])) := k1_1
  replace k1_2 : hp1 (v + 1) = some (.inr (0, [.ref (v + 2), .ref (v + 3), .int t3.2.2.2.2.2.1])) := k1_2
  replace k1_3 : hp1 (v + 2) = some (.inl (kC E 0, 6, .inl t3.2.2.2.2.2.2.1)) := k1_3
  replace k1_4 : hp1 (v + 3) = some (.inl (kC E 0, 72, .inl t3.2.2.2.2.2.2.2.1)) := k1_4
  replace k1_5 : hp1 (v + 4) = some (.inr (7, [.ref (v + 5), .ref (v + 6), .int t3.2.2.2.2.2.2.2.2.1])) := k1_5
  replace k1_6 : hp1 (v + 5) = some (.inl (kC E 0, 6, .inl t3.2.2.2.2.2.2.2.2.2.1)) := k1_6
  replace k1_7 : hp1 (v + 6) = some (.inl (kC E 0, 24, .inl t3.2.2.2.2.2.2.2.2.2.2.1)) := k1_7
  replace k1_8 : hp1 (v + 7) = some (.inr (4, [.ref (v + 8), .ref (v + 9), .int t3.2.2.2.2.2.2.2.2.2.2.2.1])) := k1_8
  replace k1_9 : hp1 (v + 8) = some (.inl (kC E 0, 300, .inl t3.2.2.2.2.2.2.2.2.2.2.2.2.1)) := k1_9
  replace k1_10 : hp1 (v + 9) = some (.inl (kC E 0, 432, .inl t3.2.2.2.2.2.2.2.2.2.2.2.2.2.1)) := k1_10
  replace k1_11 : hp1 (v + 10) = some (.inr (6, [.ref (v + 11), .ref (v + 12), .int t3.2.2.2.2.2.2.2.2.2.2.2.2.2.2.1])) := k1_11
  replace k1_12 : hp1 (v + 11) = some (.inl (kC E 0, 36, .inl t3.2.2.2.2.2.2.2.2.2.2.2.2.2.2.2.1)) := k1_12
  replace k1_13 : hp1 (v + 12) = some (.inl (kC E 0, 36, .inl t3.2.2.2.2.2.2.2.2.2.2.2.2.2.2.2.2)) := k1_13
  refine A_st (st' := []) rfl ?_
  refine A_aload_n X dX10_setLimits_26 0 rfl ?_
  refine A_get X dX10_setLimits_27 kcl_X10 3 (by decide) kw_654 ((n1 _ (by omega) (by omega) (by omega) (by omega) (by omega) (by omega) (by omega) (by omega) (by omega) (by omega) (by omega) (by omega) (by omega) (by omega)).trans g0) rfl ?_
  refine A_iload_n X dX10_setLimits_30 1 rfl ?_
  refine A_put X dX10_setLimits_31 kcl_X2 5 (by decide) kw_157 ((n1 _ (by omega) (by omega) (by omega) (by omega) (by omega) (by omega) (by omega) (by omega) (by omega) (by omega) (by omega) (by omega) (by omega) (by omega)).trans g3) rfl rfl rfl (by simp) (fun hp2 (k2 : hp2 (x + 3) = some (.inr (2, [.ref (x + 4), .ref (x + 7), .ref (x + 10), .ref (x + 13), .int sd, .int a0, .int th]))) n2 => ?_)
  refine A_aload_n X dX10_setLimits_34 0 rfl ?_
  refine A_get X dX10_setLimits_35 kcl_X10 3 (by decide) kw_654 ((n2 _ (by omega)).trans ((n1 _ (by omega) (by omega) (by omega) (by omega) (by omega) (by omega) (by omega) (by omega) (by omega) (by omega) (by omega) (by omega) (by omega) (by omega)).trans g0)) rfl ?_
  refine A_iload_n X dX10_setLimits_38 2 rfl ?_
  refine A_put X dX10_setLimits_39 kcl_X2 6 (by decide) kw_159 k2 rfl rfl rfl (by simp) (fun hp3 (k3 : hp3 (x + 3) = some (.inr (2, [.ref (x + 4), .ref (x + 7), .ref (x + 10), .ref (x + 13), .int sd, .int a0, .int a1]))) n3 => ?_)
  refine A_aload_n X dX10_setLimits_42 0 rfl ?_
  refine A_get X dX10_setLimits_43 kcl_X10 3 (by decide) kw_654 ((n3 _ (by omega)).trans ((n2 _ (by omega)).trans ((n1 _ (by omega) (by omega) (by omega) (by omega) (by omega) (by omega) (by omega) (by omega) (by omega) (by omega) (by omega) (by omega) (by omega) (by omega)).trans g0))) rfl ?_
  obtain ⟨t4, hct4, h⟩ := bind_o h
  refine A_cp (k' := 2) (n' := 12) (A_runV (rest := []) X dX10_setLimits_46 (c_X2_countSuspicious k3 ((n3 _ (by omega)).trans ((n2 _ (by omega)).trans ((n1 _ (by omega) (by omega) (by omega) (by omega) (by omega) (by omega) (by omega) (by omega) (by omega) (by omega) (by omega) (by omega) (by omega) (by omega)).trans g4))) ((n3 _ (by omega)).trans ((n2 _ (by omega)).trans ((n1 _ (by omega) (by omega) (by omega) (by omega) (by omega) (by omega) (by omega) (by omega) (by omega) (by omega) (by omega) (by omega) (by omega) (by omega)).trans g5))) ((n3 _ (by omega)).trans ((n2 _ (by omega)).trans ((n1 _ (by omega) (by omega) (by omega) (by omega) (by omega) (by omega) (by omega) (by omega) (by omega) (by omega) (by omega) (by omega) (by omega) (by omega)).trans g10))) ((n3 _ (by omega)).trans ((n2 _ (by omega)).trans ((n1 _ (by omega) (by omega) (by omega) (by omega) (by omega) (by omega) (by omega) (by omega) (by omega) (by omega) (by omega) (by omega) (by omega) (by omega)).trans g12)))  hct4) kY_X2_countSuspicious kw_718 k3 rfl rfl ⟨(Nat.le_of_ble_eq_true rfl), (Nat.le_of_ble_eq_true rfl), (Nat.le_of_ble_eq_true rfl), (Nat.le_of_ble_eq_true rfl)⟩ rfl (Nat.le_of_ble_eq_true rfl)) rfl rfl ?_
  cases h
  exact A_iretX X dX10_setLimits_49 hr ⟨_, rfl, rfl, k3, ((n3 _ (by omega)).trans ((n2 _ (by omega)).trans k1_0)), ((n3 _ (by omega)).trans ((n2 _ (by omega)).trans k1_1)), ((n3 _ (by omega)).trans ((n2 _ (by omega)).trans k1_2)), ((n3 _ (by omega)).trans ((n2 _ (by omega)).trans k1_3)), ((n3 _ (by omega)).trans ((n2 _ (by omega)).trans k1_4)), ((n3 _ (by omega)).trans ((n2 _ (by omega)).trans k1_5)), ((n3 _ (by omega)).trans ((n2 _ (by omega)).trans k1_6)), ((n3 _ (by omega)).trans ((n2 _ (by omega)).trans k1_7)), ((n3 _ (by omega)).trans ((n2 _ (by omega)).trans k1_8)), ((n3 _ (by omega)).trans ((n2 _ (by omega)).trans k1_9)), ((n3 _ (by omega)).trans ((n2 _ (by omega)).trans k1_10)), ((n3 _ (by omega)).trans ((n2 _ (by omega)).trans k1_11)), ((n3 _ (by omega)).trans ((n2 _ (by omega)).trans k1_12)), ((n3 _ (by omega)).trans ((n2 _ (by omega)).trans k1_13)), (fun q z0 z1 z2 z3 z4 z5 z6 z7 z8 z9 z10 z11 z12 z13 z14 => ((n3 q z0).trans ((n2 q z0).trans (n1 q z1 z2 z3 z4 z5 z6 z7 z8 z9 z10 z11 z12 z13 z14)))), rfl⟩ (Nat.le_of_ble_eq_true rfl) (Nat.le_of_ble_eq_true rfl)
abbrev P_X10_writeRecordOf (E : KE) (x : Nat)  (hp : Hp) (al : Option Nat) (out : Int32 × (Nat → Int32)) : Option Value → Hp → Option Nat → Prop := fun v0 hp' al' => v0 = none ∧ hp' (x + 1) = some (.inr (8, [.ref (x + 2), .int out.1])) ∧ hp' (x + 2) = some (.inl (kC E 0, 900, .inl out.2)) ∧ (∀ q, q ≠ (x + 1) → q ≠ (x + 2) → hp' q = hp q) ∧ al = al'
def f_X10_writeRecordOf_L26_F (N : Nat) (ln : Nat → Int32) (lt : Nat → Int32) (fr : Nat → Int32) (oc : Int32) (op : Nat → Int32)  (r26 : Int32 → Int32 → Int32 → (Nat → Int32) → Option (Int32 × (Nat → Int32))) (l1 : Int32) (l2 : Int32) (otl : Int32) (otb : Nat → Int32) : Option (Int32 × (Nat → Int32)) :=
  (f_X7_nameLength ln l1).bind fun t3 =>
  if t3 ≤ l2 then
    (f_X8_append otl otb 58).bind fun t4 =>
    (f_X4_playerTotal N fr l1).bind fun t5 =>
    (f_X8_appendNumber N t4.1 t4.2 t5).bind fun t6 =>
    (f_X6_countOf N oc op l1).bind fun t7 =>
    if t7 ≤ 0 then
      some (t6.1, t6.2)
    else
      (f_X8_append t6.1 t6.2 33).bind fun t8 =>
      some (t8.1, t8.2)
  else
    (f_X7_letter lt l1 l2).bind fun t9 =>
    (f_X8_append otl otb t9).bind fun t10 =>
    r26 l1 (l2 + 1) t10.1 t10.2
def f_X10_writeRecordOf_L26 (N : Nat) (ln : Nat → Int32) (lt : Nat → Int32) (fr : Nat → Int32) (oc : Int32) (op : Nat → Int32)  : Nat → Int32 → Int32 → Int32 → (Nat → Int32) → Option (Int32 × (Nat → Int32))
  | 0 => fun _ _ _ _ => none
  | j + 1 => f_X10_writeRecordOf_L26_F N ln lt fr oc op (f_X10_writeRecordOf_L26 N ln lt fr oc op j)
set_option maxHeartbeats 4000000 in
set_option maxRecDepth 100000 in
theorem c_X10_writeRecordOf_L26 {E : KE} {p : Program} {l : Launch} {e : Env} {s : State} {m : MethodId} {args : Array Value} {below : List Frame} {meth : Method} {c : Code} {al : Option Nat} {N : Nat} {x : Nat} {sd : Int32} {mn : Int32} {th : Int32} {pc : Int32} {ln : Nat → Int32} {lt : Nat → Int32} {tc : Int32} {fr : Nat → Int32} {oc : Int32} {op : Nat → Int32} {hp0 : Hp} {out : Int32 × (Nat → Int32)}  (X : CX E p l s m args meth c "DiceAudit" cX10_writeRecordOf 3) (hr : meth.sig.returnType = (Option.none : Option Jvm.ClassFile.FieldType))   : ∀ (j : Nat), ∀ {l1 : Int32} {l2 : Int32} {otl : Int32} {otb : Nat → Int32} {hp : Hp}, hp x = some (.inr (10, [.ref (x + 126), .ref (x + 128), .ref (x + 1), .ref (x + 3), .ref (x + 16), .ref (x + 18), .ref (x + 124), .ref (x + 125)])) → hp (x + 1) = some (.inr (8, [.ref (x + 2), .int otl])) → hp (x + 2) = some (.inl (kC E 0, 900, .inl otb)) → hp (x + 3) = some (.inr (2, [.ref (x + 4), .ref (x + 7), .ref (x + 10), .ref (x + 13), .int sd, .int mn, .int th])) → hp (x + 7) = some (.inr (7, [.ref (x + 8), .ref (x + 9), .int pc])) → hp (x + 8) = some (.inl (kC E 0, 6, .inl ln)) → hp (x + 9) = some (.inl (kC E 0, 24, .inl lt)) → hp (x + 10) = some (.inr (4, [.ref (x + 11), .ref (x + 12), .int tc])) → hp (x + 12) = some (.inl (kC E 0, 432, .inl fr)) → hp (x + 13) = some (.inr (6, [.ref (x + 14), .ref (x + 15), .int oc])) → hp (x + 14) = some (.inl (kC E 0, 36, .inl op)) → (∀ q, q ≠ (x + 1) → q ≠ (x + 2) → hp q = hp0 q) → f_X10_writeRecordOf_L26 N ln lt fr oc op j l1 l2 otl otb = some out → AW E p l e ⟨3, 0, 0, 65⟩ s m args below meth c 3 (MQ below (kQc E (P_X10_writeRecordOf E x hp0 al out)) args s 0 0 (kA E)) hp al 0 0 26 [(0, .ref x), (1, .int l1), (2, .int l2)] [] := by
  intro j
  induction j with
  | zero =>
    intro l1 l2 otl otb hp g0 g1 g2 g3 g7 g8 g9 g10 g12 g13 g14 hfr h
    have h : (none : Option (Int32 × (Nat → Int32))) = some out := h
    cases h
  | succ j i26 =>
    intro l1 l2 otl otb hp g0 g1 g2 g3 g7 g8 g9 g10 g12 g13 g14 hfr h
    have h : f_X10_writeRecordOf_L26_F N ln lt fr oc op (f_X10_writeRecordOf_L26 N ln lt fr oc op j) l1 l2 otl otb = some out := h
    unfold f_X10_writeRecordOf_L26_F at h
    refine A_iload_n X dX10_writeRecordOf_26 2 rfl ?_
    refine A_aload_n X dX10_writeRecordOf_27 0 rfl ?_
    refine A_get X dX10_writeRecordOf_28 kcl_X10 3 (by decide) kw_654 g0 rfl ?_
    refine A_get X dX10_writeRecordOf_31 kcl_X2 1 (by decide) kw_145 g3 rfl ?_
    refine A_iload_n X dX10_writeRecordOf_34 1 rfl ?_
    obtain ⟨t3, hct3, h⟩ := bind_o h
    refine A_cp (k' := 0) (n' := 0) (A_runV (rest := [.int l2]) X dX10_writeRecordOf_35 (c_X7_nameLength g7 g8  hct3) kY_X7_nameLength kw_817 g7 rfl rfl ⟨(Nat.le_of_ble_eq_true rfl), (Nat.le_of_ble_eq_true rfl), (Nat.le_of_ble_eq_true rfl), (Nat.le_of_ble_eq_true rfl)⟩ rfl (Nat.le_of_ble_eq_true rfl)) rfl rfl ?_
    refine A_icmp_ge (tgt := 66) X dX10_writeRecordOf_38 h (by decide) (fun hc h => ?_) (fun hc h => ?_)
    · refine A_aload_n X dX10_writeRecordOf_66 0 rfl ?_
      refine A_get X dX10_writeRecordOf_67 kcl_X10 2 (by decide) kw_653 g0 rfl ?_
      refine A_bipush (v := 58) X dX10_writeRecordOf_70 (by decide) ?_
      obtain ⟨t4, hct4, h⟩ := bind_o h
      refine A_c (k' := 0) (n' := 0) rfl rfl (A_runV (rest := []) X dX10_writeRecordOf_72 (c_X8_append g1 g2  hct4) kY_X8_append kw_822 g1 rfl rfl ⟨(Nat.le_of_ble_eq_true rfl), (Nat.le_of_ble_eq_true rfl), (Nat.le_of_ble_eq_true rfl), (Nat.le_of_ble_eq_true rfl)⟩ rfl (Nat.le_of_ble_eq_true rfl)) (fun v9 hp1 al9 hP => ?_)
      obtain ⟨rfl, k1_0, k1_1, n1, rfl⟩ := hP
      replace k1_0 : hp1 (x + 1) = some (.inr (8, [.ref (x + 2), .int t4.1])) := k1_0
      replace k1_1 : hp1 (x + 2) = some (.inl (kC E 0, 900, .inl t4.2)) := k1_1
      refine A_st (st' := []) rfl ?_
      refine A_aload_n X dX10_writeRecordOf_75 0 rfl ?_
      refine A_get X dX10_writeRecordOf_76 kcl_X10 2 (by decide) kw_653 ((n1 _ (by omega) (by omega)).trans g0) rfl ?_
      refine A_aload_n X dX10_writeRecordOf_79 0 rfl ?_
      refine A_get X dX10_writeRecordOf_80 kcl_X10 3 (by decide) kw_654 ((n1 _ (by omega) (by omega)).trans g0) rfl ?_
      refine A_get X dX10_writeRecordOf_83 kcl_X2 2 (by decide) kw_148 ((n1 _ (by omega) (by omega)).trans g3) rfl ?_
      refine A_iload_n X dX10_writeRecordOf_86 1 rfl ?_
      obtain ⟨t5, hct5, h⟩ := bind_o h
      refine A_cp (k' := 0) (n' := 0) (A_runV (rest := [.ref (x + 1)]) X dX10_writeRecordOf_87 (c_X4_playerTotal ((n1 _ (by omega) (by omega)).trans g10) ((n1 _ (by omega) (by omega)).trans g12)  hct5) kY_X4_playerTotal kw_757 ((n1 _ (by omega) (by omega)).trans g10) rfl rfl ⟨(Nat.le_of_ble_eq_true rfl), (Nat.le_of_ble_eq_true rfl), (Nat.le_of_ble_eq_true rfl), (Nat.le_of_ble_eq_true rfl)⟩ rfl (Nat.le_of_ble_eq_true rfl)) rfl rfl ?_
      obtain ⟨t6, hct6, h⟩ := bind_o h
      refine A_c (k' := 0) (n' := 0) rfl rfl (A_runV (rest := []) X dX10_writeRecordOf_90 (c_X8_appendNumber k1_0 k1_1  hct6) kY_X8_appendNumber kw_823 k1_0 rfl rfl ⟨(Nat.le_of_ble_eq_true rfl), (Nat.le_of_ble_eq_true rfl), (Nat.le_of_ble_eq_true rfl), (Nat.le_of_ble_eq_true rfl)⟩ rfl (Nat.le_of_ble_eq_true rfl)) (fun v9 hp2 al9 hP => ?_)
      obtain ⟨rfl, k2_0, k2_1, n2, rfl⟩ := hP
      replace k2_0 : hp2 (x + 1) = some (.inr (8, [.ref (x + 2), .int t6.1])) := k2_0
      replace k2_1 : hp2 (x + 2) = some (.inl (kC E 0, 900, .inl t6.2)) := k2_1
      refine A_st (st' := []) rfl ?_
      refine A_aload_n X dX10_writeRecordOf_93 0 rfl ?_
      refine A_get X dX10_writeRecordOf_94 kcl_X10 3 (by decide) kw_654 ((n2 _ (by omega) (by omega)).trans ((n1 _ (by omega) (by omega)).trans g0)) rfl ?_
      refine A_get X dX10_writeRecordOf_97 kcl_X2 3 (by decide) kw_152 ((n2 _ (by omega) (by omega)).trans ((n1 _ (by omega) (by omega)).trans g3)) rfl ?_
      refine A_iload_n X dX10_writeRecordOf_100 1 rfl ?_
      obtain ⟨t7, hct7, h⟩ := bind_o h
      refine A_cp (k' := 0) (n' := 0) (A_runV (rest := []) X dX10_writeRecordOf_101 (c_X6_countOf ((n2 _ (by omega) (by omega)).trans ((n1 _ (by omega) (by omega)).trans g13)) ((n2 _ (by omega) (by omega)).trans ((n1 _ (by omega) (by omega)).trans g14))  hct7) kY_X6_countOf kw_827 ((n2 _ (by omega) (by omega)).trans ((n1 _ (by omega) (by omega)).trans g13)) rfl rfl ⟨(Nat.le_of_ble_eq_true rfl), (Nat.le_of_ble_eq_true rfl), (Nat.le_of_ble_eq_true rfl), (Nat.le_of_ble_eq_true rfl)⟩ rfl (Nat.le_of_ble_eq_true rfl)) rfl rfl ?_
      refine A_if_le (tgt := 116) X dX10_writeRecordOf_104 h (by decide) (fun hc h => ?_) (fun hc h => ?_)
      · cases h
        exact A_vret X dX10_writeRecordOf_116 hr ⟨rfl, k2_0, k2_1, (fun q z0 z1 => ((n2 q z0 z1).trans ((n1 q z0 z1).trans (hfr q z0 z1)))), rfl⟩ (Nat.le_of_ble_eq_true rfl) (Nat.le_of_ble_eq_true rfl)
      · refine A_aload_n X dX10_writeRecordOf_107 0 rfl ?_
        refine A_get X dX10_writeRecordOf_108 kcl_X10 2 (by decide) kw_653 ((n2 _ (by omega) (by omega)).trans ((n1 _ (by omega) (by omega)).trans g0)) rfl ?_
        refine A_bipush (v := 33) X dX10_writeRecordOf_111 (by decide) ?_
        obtain ⟨t8, hct8, h⟩ := bind_o h
        refine A_c (k' := 0) (n' := 0) rfl rfl (A_runV (rest := []) X dX10_writeRecordOf_113 (c_X8_append k2_0 k2_1  hct8) kY_X8_append kw_822 k2_0 rfl rfl ⟨(Nat.le_of_ble_eq_true rfl), (Nat.le_of_ble_eq_true rfl), (Nat.le_of_ble_eq_true rfl), (Nat.le_of_ble_eq_true rfl)⟩ rfl (Nat.le_of_ble_eq_true rfl)) (fun v9 hp3 al9 hP => ?_)
        obtain ⟨rfl, k3_0, k3_1, n3, rfl⟩ := hP
        replace k3_0 : hp3 (x + 1) = some (.inr (8, [.ref (x + 2), .int t8.1])) := k3_0
        replace k3_1 : hp3 (x + 2) = some (.inl (kC E 0, 900, .inl t8.2)) := k3_1
        refine A_st (st' := []) rfl ?_
        cases h
        exact A_vret X dX10_writeRecordOf_116 hr ⟨rfl, k3_0, k3_1, (fun q z0 z1 => ((n3 q z0 z1).trans ((n2 q z0 z1).trans ((n1 q z0 z1).trans (hfr q z0 z1))))), rfl⟩ (Nat.le_of_ble_eq_true rfl) (Nat.le_of_ble_eq_true rfl)
    · refine A_aload_n X dX10_writeRecordOf_41 0 rfl ?_
      refine A_get X dX10_writeRecordOf_42 kcl_X10 2 (by decide) kw_653 g0 rfl ?_
      refine A_aload_n X dX10_writeRecordOf_45 0 rfl ?_
      refine A_get X dX10_writeRecordOf_46 kcl_X10 3 (by decide) kw_654 g0 rfl ?_
      refine A_get X dX10_writeRecordOf_49 kcl_X2 1 (by decide) kw_145 g3 rfl ?_
      refine A_iload_n X dX10_writeRecordOf_52 1 rfl ?_
      refine A_iload_n X dX10_writeRecordOf_53 2 rfl ?_
      obtain ⟨t9, hct9, h⟩ := bind_o h
      refine A_cp (k' := 0) (n' := 0) (A_runV (rest := [.ref (x + 1)]) X dX10_writeRecordOf_54 (c_X7_letter g7 g9  hct9) kY_X7_letter kw_821 g7 rfl rfl ⟨(Nat.le_of_ble_eq_true rfl), (Nat.le_of_ble_eq_true rfl), (Nat.le_of_ble_eq_true rfl), (Nat.le_of_ble_eq_true rfl)⟩ rfl (Nat.le_of_ble_eq_true rfl)) rfl rfl ?_
      obtain ⟨t10, hct10, h⟩ := bind_o h
      refine A_c (k' := 0) (n' := 0) rfl rfl (A_runV (rest := []) X dX10_writeRecordOf_57 (c_X8_append g1 g2  hct10) kY_X8_append kw_822 g1 rfl rfl ⟨(Nat.le_of_ble_eq_true rfl), (Nat.le_of_ble_eq_true rfl), (Nat.le_of_ble_eq_true rfl), (Nat.le_of_ble_eq_true rfl)⟩ rfl (Nat.le_of_ble_eq_true rfl)) (fun v9 hp1 al9 hP => ?_)
      obtain ⟨rfl, k1_0, k1_1, n1, rfl⟩ := hP
      replace k1_0 : hp1 (x + 1) = some (.inr (8, [.ref (x + 2), .int t10.1])) := k1_0
      replace k1_1 : hp1 (x + 2) = some (.inl (kC E 0, 900, .inl t10.2)) := k1_1
      refine A_st (st' := []) rfl ?_
      refine A_iinc (j := 2) (v := (l2 + 1)) (L' := [(2, .int (l2 + 1)), (0, .ref x), (1, .int l1)]) X dX10_writeRecordOf_60 rfl rfl (by decide) rfl ?_
      refine A_goto (tgt := 26) X dX10_writeRecordOf_63 (by decide) ?_
      refine A_sub (L' := [(0, .ref x), (1, .int l1), (2, .int (l2 + 1))]) [1, 2, 0] rfl ?_
      exact i26 ((n1 _ (by omega) (by omega)).trans g0) k1_0 k1_1 ((n1 _ (by omega) (by omega)).trans g3) ((n1 _ (by omega) (by omega)).trans g7) ((n1 _ (by omega) (by omega)).trans g8) ((n1 _ (by omega) (by omega)).trans g9) ((n1 _ (by omega) (by omega)).trans g10) ((n1 _ (by omega) (by omega)).trans g12) ((n1 _ (by omega) (by omega)).trans g13) ((n1 _ (by omega) (by omega)).trans g14) (fun q z0 z1 => ((n1 q z0 z1).trans (hfr q z0 z1))) h
def f_X10_writeRecordOf (N : Nat) (ln : Nat → Int32) (lt : Nat → Int32) (fr : Nat → Int32) (oc : Int32) (op : Nat → Int32) (otl : Int32) (otb : Nat → Int32) (a0 : Int32) : Option (Int32 × (Nat → Int32)) :=
  (f_X4_playerThrows N fr a0).bind fun t1 =>
  if t1 = 0 then
    some (otl, otb)
  else
    (f_X8_appendSeparator otl otb 32).bind fun t2 =>
    f_X10_writeRecordOf_L26 N ln lt fr oc op N a0 0 t2.1 t2.2
set_option maxHeartbeats 4000000 in
set_option maxRecDepth 100000 in
theorem c_X10_writeRecordOf {E : KE} {l : Launch} {hp : Hp} {al : Option Nat} {N : Nat} {x : Nat} {otl : Int32} {otb : Nat → Int32} {sd : Int32} {mn : Int32} {th : Int32} {pc : Int32} {ln : Nat → Int32} {lt : Nat → Int32} {tc : Int32} {fr : Nat → Int32} {oc : Int32} {op : Nat → Int32} {a0 : Int32} {out : Int32 × (Nat → Int32)} (g0 : hp x = some (.inr (10, [.ref (x + 126), .ref (x + 128), .ref (x + 1), .ref (x + 3), .ref (x + 16), .ref (x + 18), .ref (x + 124), .ref (x + 125)]))) (g1 : hp (x + 1) = some (.inr (8, [.ref (x + 2), .int otl]))) (g2 : hp (x + 2) = some (.inl (kC E 0, 900, .inl otb))) (g3 : hp (x + 3) = some (.inr (2, [.ref (x + 4), .ref (x + 7), .ref (x + 10), .ref (x + 13), .int sd, .int mn, .int th]))) (g7 : hp (x + 7) = some (.inr (7, [.ref (x + 8), .ref (x + 9), .int pc]))) (g8 : hp (x + 8) = some (.inl (kC E 0, 6, .inl ln))) (g9 : hp (x + 9) = some (.inl (kC E 0, 24, .inl lt))) (g10 : hp (x + 10) = some (.inr (4, [.ref (x + 11), .ref (x + 12), .int tc]))) (g12 : hp (x + 12) = some (.inl (kC E 0, 432, .inl fr))) (g13 : hp (x + 13) = some (.inr (6, [.ref (x + 14), .ref (x + 15), .int oc]))) (g14 : hp (x + 14) = some (.inl (kC E 0, 36, .inl op)))  (h : f_X10_writeRecordOf N ln lt fr oc op otl otb a0 = some out) : AM E l yX10_writeRecordOf cX10_writeRecordOf 3 (Option.none : Option Jvm.ClassFile.FieldType) ⟨3, 0, 0, 65⟩ [.ref x, .int a0] hp al (P_X10_writeRecordOf E x hp al out) := by
  refine A_of (by decide +kernel) (Nat.le_of_ble_eq_true rfl) ?_
  intro p e s m args below meth c X hr hnm
  have X : CX E p l s m args meth c "DiceAudit" cX10_writeRecordOf 3 := X
  refine A_L (L' := [(0, .ref x), (1, .int a0)]) rfl ?_
  unfold f_X10_writeRecordOf at h
  refine A_aload_n X dX10_writeRecordOf_0 0 rfl ?_
  refine A_get X dX10_writeRecordOf_1 kcl_X10 3 (by decide) kw_654 g0 rfl ?_
  refine A_get X dX10_writeRecordOf_4 kcl_X2 2 (by decide) kw_148 g3 rfl ?_
  refine A_iload_n X dX10_writeRecordOf_7 1 rfl ?_
  obtain ⟨t1, hct1, h⟩ := bind_o h
  refine A_cp (k' := 0) (n' := 0) (A_runV (rest := []) X dX10_writeRecordOf_8 (c_X4_playerThrows g10 g12  hct1) kY_X4_playerThrows kw_809 g10 rfl rfl ⟨(Nat.le_of_ble_eq_true rfl), (Nat.le_of_ble_eq_true rfl), (Nat.le_of_ble_eq_true rfl), (Nat.le_of_ble_eq_true rfl)⟩ rfl (Nat.le_of_ble_eq_true rfl)) rfl rfl ?_
  refine A_if_ne (tgt := 15) X dX10_writeRecordOf_11 h (by decide) (fun hc h => ?_) (fun hc h => ?_)
  · refine A_aload_n X dX10_writeRecordOf_15 0 rfl ?_
    refine A_get X dX10_writeRecordOf_16 kcl_X10 2 (by decide) kw_653 g0 rfl ?_
    refine A_bipush (v := 32) X dX10_writeRecordOf_19 (by decide) ?_
    obtain ⟨t2, hct2, h⟩ := bind_o h
    refine A_c (k' := 0) (n' := 0) rfl rfl (A_runV (rest := []) X dX10_writeRecordOf_21 (c_X8_appendSeparator g1 g2  hct2) kY_X8_appendSeparator kw_813 g1 rfl rfl ⟨(Nat.le_of_ble_eq_true rfl), (Nat.le_of_ble_eq_true rfl), (Nat.le_of_ble_eq_true rfl), (Nat.le_of_ble_eq_true rfl)⟩ rfl (Nat.le_of_ble_eq_true rfl)) (fun v9 hp1 al9 hP => ?_)
    obtain ⟨rfl, k1_0, k1_1, n1, rfl⟩ := hP
    replace k1_0 : hp1 (x + 1) = some (.inr (8, [.ref (x + 2), .int t2.1])) := k1_0
    replace k1_1 : hp1 (x + 2) = some (.inl (kC E 0, 900, .inl t2.2)) := k1_1
    refine A_st (st' := []) rfl ?_
    refine A_iconst (v := 0) X dX10_writeRecordOf_24 (by decide) ?_
    refine A_istore_n (L' := [(2, .int 0), (0, .ref x), (1, .int a0)]) X dX10_writeRecordOf_25 rfl (by decide) rfl ?_
    refine A_sub (L' := [(0, .ref x), (1, .int a0), (2, .int 0)]) [1, 2, 0] rfl ?_
    exact c_X10_writeRecordOf_L26 X hr  N ((n1 _ (by omega) (by omega)).trans g0) k1_0 k1_1 ((n1 _ (by omega) (by omega)).trans g3) ((n1 _ (by omega) (by omega)).trans g7) ((n1 _ (by omega) (by omega)).trans g8) ((n1 _ (by omega) (by omega)).trans g9) ((n1 _ (by omega) (by omega)).trans g10) ((n1 _ (by omega) (by omega)).trans g12) ((n1 _ (by omega) (by omega)).trans g13) ((n1 _ (by omega) (by omega)).trans g14) (fun q z0 z1 => (n1 q z0 z1)) h
  · cases h
    exact A_vret X dX10_writeRecordOf_14 hr ⟨rfl, g1, g2, (fun q z0 z1 => rfl), rfl⟩ (Nat.le_of_ble_eq_true rfl) (Nat.le_of_ble_eq_true rfl)
abbrev P_X10_writeRecords (E : KE) (x : Nat)  (hp : Hp) (al : Option Nat) (out : Int32 × Int32 × (Nat → Int32)) : Option Value → Hp → Option Nat → Prop := fun v0 hp' al' => v0 = some (.int out.1) ∧ hp' (x + 1) = some (.inr (8, [.ref (x + 2), .int out.2.1])) ∧ hp' (x + 2) = some (.inl (kC E 0, 900, .inl out.2.2)) ∧ (∀ q, q ≠ (x + 1) → q ≠ (x + 2) → hp' q = hp q) ∧ al = al'
def f_X10_writeRecords_L10_F (N : Nat) (pc : Int32) (ln : Nat → Int32) (lt : Nat → Int32) (fr : Nat → Int32) (oc : Int32) (op : Nat → Int32)  (r10 : Int32 → Int32 → (Nat → Int32) → Option (Int32 × Int32 × (Nat → Int32))) (l1 : Int32) (otl : Int32) (otb : Nat → Int32) : Option (Int32 × Int32 × (Nat → Int32)) :=
  if pc ≤ l1 then
    some (otl, otl, otb)
  else
    (f_X7_playerInPlace N pc lt l1).bind fun t2 =>
    (f_X10_writeRecordOf N ln lt fr oc op otl otb t2).bind fun t3 =>
    r10 (l1 + 1) t3.1 t3.2
def f_X10_writeRecords_L10 (N : Nat) (pc : Int32) (ln : Nat → Int32) (lt : Nat → Int32) (fr : Nat → Int32) (oc : Int32) (op : Nat → Int32)  : Nat → Int32 → Int32 → (Nat → Int32) → Option (Int32 × Int32 × (Nat → Int32))
  | 0 => fun _ _ _ => none
  | j + 1 => f_X10_writeRecords_L10_F N pc ln lt fr oc op (f_X10_writeRecords_L10 N pc ln lt fr oc op j)
set_option maxHeartbeats 4000000 in
set_option maxRecDepth 100000 in
theorem c_X10_writeRecords_L10 {E : KE} {p : Program} {l : Launch} {e : Env} {s : State} {m : MethodId} {args : Array Value} {below : List Frame} {meth : Method} {c : Code} {al : Option Nat} {N : Nat} {x : Nat} {sd : Int32} {mn : Int32} {th : Int32} {pc : Int32} {ln : Nat → Int32} {lt : Nat → Int32} {tc : Int32} {fr : Nat → Int32} {oc : Int32} {op : Nat → Int32} {hp0 : Hp} {out : Int32 × Int32 × (Nat → Int32)}  (X : CX E p l s m args meth c "DiceAudit" cX10_writeRecords 2) (hr : meth.sig.returnType = (Option.some Jvm.ClassFile.FieldType.int))   : ∀ (j : Nat), ∀ {l1 : Int32} {otl : Int32} {otb : Nat → Int32} {hp : Hp}, hp x = some (.inr (10, [.ref (x + 126), .ref (x + 128), .ref (x + 1), .ref (x + 3), .ref (x + 16), .ref (x + 18), .ref (x + 124), .ref (x + 125)])) → hp (x + 1) = some (.inr (8, [.ref (x + 2), .int otl])) → hp (x + 2) = some (.inl (kC E 0, 900, .inl otb)) → hp (x + 3) = some (.inr (2, [.ref (x + 4), .ref (x + 7), .ref (x + 10), .ref (x + 13), .int sd, .int mn, .int th])) → hp (x + 7) = some (.inr (7, [.ref (x + 8), .ref (x + 9), .int pc])) → hp (x + 8) = some (.inl (kC E 0, 6, .inl ln)) → hp (x + 9) = some (.inl (kC E 0, 24, .inl lt)) → hp (x + 10) = some (.inr (4, [.ref (x + 11), .ref (x + 12), .int tc])) → hp (x + 12) = some (.inl (kC E 0, 432, .inl fr)) → hp (x + 13) = some (.inr (6, [.ref (x + 14), .ref (x + 15), .int oc])) → hp (x + 14) = some (.inl (kC E 0, 36, .inl op)) → (∀ q, q ≠ (x + 1) → q ≠ (x + 2) → hp q = hp0 q) → f_X10_writeRecords_L10 N pc ln lt fr oc op j l1 otl otb = some out → AW E p l e ⟨5, 0, 0, 112⟩ s m args below meth c 2 (MQ below (kQc E (P_X10_writeRecords E x hp0 al out)) args s 0 0 (kA E)) hp al 0 0 10 [(0, .ref x), (1, .int l1)] [] := by
  intro j
  induction j with
  | zero =>
    intro l1 otl otb hp g0 g1 g2 g3 g7 g8 g9 g10 g12 g13 g14 hfr h
    have h : (none : Option (Int32 × Int32 × (Nat → Int32))) = some out := h
    cases h
  | succ j i10 =>
    intro l1 otl otb hp g0 g1 g2 g3 g7 g8 g9 g10 g12 g13 g14 hfr h
    have h : f_X10_writeRecords_L10_F N pc ln lt fr oc op (f_X10_writeRecords_L10 N pc ln lt fr oc op j) l1 otl otb = some out := h
    unfold f_X10_writeRecords_L10_F at h
    refine A_iload_n X dX10_writeRecords_10 1 rfl ?_
    refine A_aload_n X dX10_writeRecords_11 0 rfl ?_
    refine A_get X dX10_writeRecords_12 kcl_X10 3 (by decide) kw_654 g0 rfl ?_
    refine A_get X dX10_writeRecords_15 kcl_X2 1 (by decide) kw_145 g3 rfl ?_
    refine A_get X dX10_writeRecords_18 kcl_X7 2 (by decide) kw_86 g7 rfl ?_
    refine A_icmp_ge (tgt := 45) X dX10_writeRecords_21 h (by decide) (fun hc h => ?_) (fun hc h => ?_)
    · refine A_aload_n X dX10_writeRecords_45 0 rfl ?_
      refine A_get X dX10_writeRecords_46 kcl_X10 2 (by decide) kw_653 g0 rfl ?_
      refine A_get X dX10_writeRecords_49 kcl_X8 1 (by decide) kw_43 g1 rfl ?_
      cases h
      exact A_iret X dX10_writeRecords_52 hr ⟨rfl, g1, g2, (fun q z0 z1 => (hfr q z0 z1)), rfl⟩ (Nat.le_of_ble_eq_true rfl) (Nat.le_of_ble_eq_true rfl)
    · refine A_aload_n X dX10_writeRecords_24 0 rfl ?_
      refine A_aload_n X dX10_writeRecords_25 0 rfl ?_
      refine A_get X dX10_writeRecords_26 kcl_X10 3 (by decide) kw_654 g0 rfl ?_
      refine A_get X dX10_writeRecords_29 kcl_X2 1 (by decide) kw_145 g3 rfl ?_
      refine A_iload_n X dX10_writeRecords_32 1 rfl ?_
      obtain ⟨t2, hct2, h⟩ := bind_o h
      refine A_cp (k' := 0) (n' := 0) (A_runV (rest := [.ref x]) X dX10_writeRecords_33 (c_X7_playerInPlace g7 g9  hct2) kY_X7_playerInPlace kw_789 g7 rfl rfl ⟨(Nat.le_of_ble_eq_true rfl), (Nat.le_of_ble_eq_true rfl), (Nat.le_of_ble_eq_true rfl), (Nat.le_of_ble_eq_true rfl)⟩ rfl (Nat.le_of_ble_eq_true rfl)) rfl rfl ?_
      obtain ⟨t3, hct3, h⟩ := bind_o h
      refine A_c (k' := 0) (n' := 0) rfl rfl (A_runV (rest := []) X dX10_writeRecords_36 (c_X10_writeRecordOf g0 g1 g2 g3 g7 g8 g9 g10 g12 g13 g14  hct3) kY_X10_writeRecordOf kw_805 g0 rfl rfl ⟨(Nat.le_of_ble_eq_true rfl), (Nat.le_of_ble_eq_true rfl), (Nat.le_of_ble_eq_true rfl), (Nat.le_of_ble_eq_true rfl)⟩ rfl (Nat.le_of_ble_eq_true rfl)) (fun v9 hp1 al9 hP => ?_)
      obtain ⟨rfl, k1_0, k1_1, n1, rfl⟩ := hP
      replace k1_0 : hp1 (x + 1) = some (.inr (8, [.ref (x + 2), .int t3.1])) := k1_0
      replace k1_1 : hp1 (x + 2) = some (.inl (kC E 0, 900, .inl t3.2)) := k1_1
      refine A_st (st' := []) rfl ?_
      refine A_iinc (j := 1) (v := (l1 + 1)) (L' := [(1, .int (l1 + 1)), (0, .ref x)]) X dX10_writeRecords_39 rfl rfl (by decide) rfl ?_
      refine A_goto (tgt := 10) X dX10_writeRecords_42 (by decide) ?_
      refine A_sub (L' := [(0, .ref x), (1, .int (l1 + 1))]) [1, 0] rfl ?_
      exact i10 ((n1 _ (by omega) (by omega)).trans g0) k1_0 k1_1 ((n1 _ (by omega) (by omega)).trans g3) ((n1 _ (by omega) (by omega)).trans g7) ((n1 _ (by omega) (by omega)).trans g8) ((n1 _ (by omega) (by omega)).trans g9) ((n1 _ (by omega) (by omega)).trans g10) ((n1 _ (by omega) (by omega)).trans g12) ((n1 _ (by omega) (by omega)).trans g13) ((n1 _ (by omega) (by omega)).trans g14) (fun q z0 z1 => ((n1 q z0 z1).trans (hfr q z0 z1))) h
def f_X10_writeRecords (N : Nat) (pc : Int32) (ln : Nat → Int32) (lt : Nat → Int32) (fr : Nat → Int32) (oc : Int32) (op : Nat → Int32) (otl : Int32) (otb : Nat → Int32) : Option (Int32 × Int32 × (Nat → Int32)) :=
  (f_X8_cutTo otl 0).bind fun t1 =>
  f_X10_writeRecords_L10 N pc ln lt fr oc op N 0 t1 otb
set_option maxHeartbeats 4000000 in
set_option maxRecDepth 100000 in
theorem c_X10_writeRecords {E : KE} {l : Launch} {hp : Hp} {al : Option Nat} {N : Nat} {x : Nat} {otl : Int32} {otb : Nat → Int32} {sd : Int32} {mn : Int32} {th : Int32} {pc : Int32} {ln : Nat → Int32} {lt : Nat → Int32} {tc : Int32} {fr : Nat → Int32} {oc : Int32} {op : Nat → Int32}  {out : Int32 × Int32 × (Nat → Int32)} (g0 : hp x = some (.inr (10, [.ref (x + 126), .ref (x + 128), .ref (x + 1), .ref (x + 3), .ref (x + 16), .ref (x + 18), .ref (x + 124), .ref (x + 125)]))) (g1 : hp (x + 1) = some (.inr (8, [.ref (x + 2), .int otl]))) (g2 : hp (x + 2) = some (.inl (kC E 0, 900, .inl otb))) (g3 : hp (x + 3) = some (.inr (2, [.ref (x + 4), .ref (x + 7), .ref (x + 10), .ref (x + 13), .int sd, .int mn, .int th]))) (g7 : hp (x + 7) = some (.inr (7, [.ref (x + 8), .ref (x + 9), .int pc]))) (g8 : hp (x + 8) = some (.inl (kC E 0, 6, .inl ln))) (g9 : hp (x + 9) = some (.inl (kC E 0, 24, .inl lt))) (g10 : hp (x + 10) = some (.inr (4, [.ref (x + 11), .ref (x + 12), .int tc]))) (g12 : hp (x + 12) = some (.inl (kC E 0, 432, .inl fr))) (g13 : hp (x + 13) = some (.inr (6, [.ref (x + 14), .ref (x + 15), .int oc]))) (g14 : hp (x + 14) = some (.inl (kC E 0, 36, .inl op)))  (h : f_X10_writeRecords N pc ln lt fr oc op otl otb = some out) : AM E l yX10_writeRecords cX10_writeRecords 2 (Option.some Jvm.ClassFile.FieldType.int) ⟨5, 0, 0, 112⟩ [.ref x] hp al (P_X10_writeRecords E x hp al out) := by
  refine A_of (by decide +kernel) (Nat.le_of_ble_eq_true rfl) ?_
  intro p e s m args below meth c X hr hnm
  have X : CX E p l s m args meth c "DiceAudit" cX10_writeRecords 2 := X
  refine A_L (L' := [(0, .ref x)]) rfl ?_
  unfold f_X10_writeRecords at h
  refine A_aload_n X dX10_writeRecords_0 0 rfl ?_
  refine A_get X dX10_writeRecords_1 kcl_X10 2 (by decide) kw_653 g0 rfl ?_
  refine A_iconst (v := 0) X dX10_writeRecords_4 (by decide) ?_
  obtain ⟨t1, hct1, h⟩ := bind_o h
  refine A_c (k' := 0) (n' := 0) rfl rfl (A_runV (rest := []) X dX10_writeRecords_5 (c_X8_cutTo g1  hct1) kY_X8_cutTo kw_618 g1 rfl rfl ⟨(Nat.le_of_ble_eq_true rfl), (Nat.le_of_ble_eq_true rfl), (Nat.le_of_ble_eq_true rfl), (Nat.le_of_ble_eq_true rfl)⟩ rfl (Nat.le_of_ble_eq_true rfl)) (fun v9 hp1 al9 hP => ?_)
  obtain ⟨rfl, k1_0, n1, rfl⟩ := hP
  replace k1_0 : hp1 (x + 1) = some (.inr (8, [.ref (x + 2), .int t1])) := k1_0
  refine A_st (st' := []) rfl ?_
  refine A_iconst (v := 0) X dX10_writeRecords_8 (by decide) ?_
  refine A_istore_n (L' := [(1, .int 0), (0, .ref x)]) X dX10_writeRecords_9 rfl (by decide) rfl ?_
  refine A_sub (L' := [(0, .ref x), (1, .int 0)]) [1, 0] rfl ?_
  exact c_X10_writeRecords_L10 X hr  N ((n1 _ (by omega)).trans g0) k1_0 ((n1 _ (by omega)).trans g2) ((n1 _ (by omega)).trans g3) ((n1 _ (by omega)).trans g7) ((n1 _ (by omega)).trans g8) ((n1 _ (by omega)).trans g9) ((n1 _ (by omega)).trans g10) ((n1 _ (by omega)).trans g12) ((n1 _ (by omega)).trans g13) ((n1 _ (by omega)).trans g14) (fun q z0 z1 => (n1 q z0)) h
abbrev P_X10_writeFaces (E : KE) (x : Nat)  (hp : Hp) (al : Option Nat) (out : String ⊕ (Int32 × Int32 × (Nat → Int32))) : Option Value → Hp → Option Nat → Prop := fun v0 hp' al' => ∃ u, out = .inr u ∧ v0 = some (.int u.1) ∧ hp' (x + 1) = some (.inr (8, [.ref (x + 2), .int u.2.1])) ∧ hp' (x + 2) = some (.inl (kC E 0, 900, .inl u.2.2)) ∧ (∀ q, q ≠ (x + 1) → q ≠ (x + 2) → hp' q = hp q) ∧ al = al'
def f_X10_writeFaces_L74 (N : Nat) (pc : Int32) (tc : Int32) (en : Nat → Int32) (r15 : Int32 → Int32 → Int32 → (Nat → Int32) → Option (String ⊕ (Int32 × Int32 × (Nat → Int32)))) (l1 : Int32) (l2 : Int32) (otl : Int32) (otb : Nat → Int32) : Option (String ⊕ (Int32 × Int32 × (Nat → Int32))) :=
  r15 l1 (l2 + 1) otl otb
set_option maxHeartbeats 4000000 in
set_option maxRecDepth 100000 in
theorem c_X10_writeFaces_L74 {E : KE} {p : Program} {l : Launch} {e : Env} {s : State} {m : MethodId} {args : Array Value} {below : List Frame} {meth : Method} {c : Code} {al : Option Nat} {N : Nat} {x : Nat} {sd : Int32} {mn : Int32} {th : Int32} {pc : Int32} {tc : Int32} {en : Nat → Int32} {hp0 : Hp} {out : String ⊕ (Int32 × Int32 × (Nat → Int32))} {r15 : Int32 → Int32 → Int32 → (Nat → Int32) → Option (String ⊕ (Int32 × Int32 × (Nat → Int32)))} (X : CX E p l s m args meth c "DiceAudit" cX10_writeFaces 3) (hr : meth.sig.returnType = (Option.some Jvm.ClassFile.FieldType.int)) (htb : ∀ x ∈ c.exceptionTable.toList, False)   (i15 : ∀ {l1 : Int32} {l2 : Int32} {otl : Int32} {otb : Nat → Int32} {hp : Hp}, hp x = some (.inr (10, [.ref (x + 126), .ref (x + 128), .ref (x + 1), .ref (x + 3), .ref (x + 16), .ref (x + 18), .ref (x + 124), .ref (x + 125)])) → hp (x + 1) = some (.inr (8, [.ref (x + 2), .int otl])) → hp (x + 2) = some (.inl (kC E 0, 900, .inl otb)) → hp (x + 3) = some (.inr (2, [.ref (x + 4), .ref (x + 7), .ref (x + 10), .ref (x + 13), .int sd, .int mn, .int th])) → hp (x + 7) = some (.inr (7, [.ref (x + 8), .ref (x + 9), .int pc])) → hp (x + 10) = some (.inr (4, [.ref (x + 11), .ref (x + 12), .int tc])) → hp (x + 11) = some (.inl (kC E 0, 300, .inl en)) → (∀ q, q ≠ (x + 1) → q ≠ (x + 2) → hp q = hp0 q) → r15 l1 l2 otl otb = some out → AW E p l e ⟨8, 1, 6, 124⟩ s m args below meth c 3 (vx_MQ below (kQc E (P_X10_writeFaces E x hp0 al out)) (kXC E (kThr out hp0)) args s 1 6 (kA E)) hp al 1 6 15 [(0, .ref x), (1, .int l1), (2, .int l2)] []) : ∀ {l1 : Int32} {l2 : Int32} {otl : Int32} {otb : Nat → Int32} {hp : Hp}, hp x = some (.inr (10, [.ref (x + 126), .ref (x + 128), .ref (x + 1), .ref (x + 3), .ref (x + 16), .ref (x + 18), .ref (x + 124), .ref (x + 125)])) → hp (x + 1) = some (.inr (8, [.ref (x + 2), .int otl])) → hp (x + 2) = some (.inl (kC E 0, 900, .inl otb)) → hp (x + 3) = some (.inr (2, [.ref (x + 4), .ref (x + 7), .ref (x + 10), .ref (x + 13), .int sd, .int mn, .int th])) → hp (x + 7) = some (.inr (7, [.ref (x + 8), .ref (x + 9), .int pc])) → hp (x + 10) = some (.inr (4, [.ref (x + 11), .ref (x + 12), .int tc])) → hp (x + 11) = some (.inl (kC E 0, 300, .inl en)) → (∀ q, q ≠ (x + 1) → q ≠ (x + 2) → hp q = hp0 q) → f_X10_writeFaces_L74 N pc tc en r15 l1 l2 otl otb = some out → AW E p l e ⟨8, 1, 6, 124⟩ s m args below meth c 3 (vx_MQ below (kQc E (P_X10_writeFaces E x hp0 al out)) (kXC E (kThr out hp0)) args s 1 6 (kA E)) hp al 1 6 74 [(0, .ref x), (1, .int l1), (2, .int l2)] [] := by
  intro l1 l2 otl otb hp g0 g1 g2 g3 g7 g10 g11 hfr h
  unfold f_X10_writeFaces_L74 at h
  refine A_iinc (j := 2) (v := (l2 + 1)) (L' := [(2, .int (l2 + 1)), (0, .ref x), (1, .int l1)]) X dX10_writeFaces_74 rfl rfl (by decide) rfl ?_
  refine A_goto (tgt := 15) X dX10_writeFaces_77 (by decide) ?_
  refine A_sub (L' := [(0, .ref x), (1, .int l1), (2, .int (l2 + 1))]) [1, 2, 0] rfl ?_
  exact i15 g0 g1 g2 g3 g7 g10 g11 (fun q z0 z1 => (hfr q z0 z1)) h
def f_X10_writeFaces_L15_F (N : Nat) (pc : Int32) (tc : Int32) (en : Nat → Int32)  (r15 : Int32 → Int32 → Int32 → (Nat → Int32) → Option (String ⊕ (Int32 × Int32 × (Nat → Int32)))) (l1 : Int32) (l2 : Int32) (otl : Int32) (otb : Nat → Int32) : Option (String ⊕ (Int32 × Int32 × (Nat → Int32))) :=
  if tc ≤ l2 then
    some (.inr (otl, otl, otb))
  else
    (f_X4_pairIn en l2).bind fun t3 =>
    (f_X10_playerOf t3).bind fun t4 =>
    if t4 = l1 then
      (f_X8_appendSeparator otl otb 44).bind fun t5 =>
      (f_X4_faceIn en l2).bind fun t6 =>
      (f_X8_appendNumber N t5.1 t5.2 t6).bind fun t7 =>
      f_X10_writeFaces_L74 N pc tc en r15 l1 l2 t7.1 t7.2
    else
      f_X10_writeFaces_L74 N pc tc en r15 l1 l2 otl otb
def f_X10_writeFaces_L15 (N : Nat) (pc : Int32) (tc : Int32) (en : Nat → Int32)  : Nat → Int32 → Int32 → Int32 → (Nat → Int32) → Option (String ⊕ (Int32 × Int32 × (Nat → Int32)))
  | 0 => fun _ _ _ _ => none
  | j + 1 => f_X10_writeFaces_L15_F N pc tc en (f_X10_writeFaces_L15 N pc tc en j)
set_option maxHeartbeats 4000000 in
set_option maxRecDepth 100000 in
theorem c_X10_writeFaces_L15 {E : KE} {p : Program} {l : Launch} {e : Env} {s : State} {m : MethodId} {args : Array Value} {below : List Frame} {meth : Method} {c : Code} {al : Option Nat} {N : Nat} {x : Nat} {sd : Int32} {mn : Int32} {th : Int32} {pc : Int32} {tc : Int32} {en : Nat → Int32} {hp0 : Hp} {out : String ⊕ (Int32 × Int32 × (Nat → Int32))}  (X : CX E p l s m args meth c "DiceAudit" cX10_writeFaces 3) (hr : meth.sig.returnType = (Option.some Jvm.ClassFile.FieldType.int)) (htb : ∀ x ∈ c.exceptionTable.toList, False)   : ∀ (j : Nat), ∀ {l1 : Int32} {l2 : Int32} {otl : Int32} {otb : Nat → Int32} {hp : Hp}, hp x = some (.inr (10, [.ref (x + 126), .ref (x + 128), .ref (x + 1), .ref (x + 3), .ref (x + 16), .ref (x + 18), .ref (x + 124), .ref (x + 125)])) → hp (x + 1) = some (.inr (8, [.ref (x + 2), .int otl])) → hp (x + 2) = some (.inl (kC E 0, 900, .inl otb)) → hp (x + 3) = some (.inr (2, [.ref (x + 4), .ref (x + 7), .ref (x + 10), .ref (x + 13), .int sd, .int mn, .int th])) → hp (x + 7) = some (.inr (7, [.ref (x + 8), .ref (x + 9), .int pc])) → hp (x + 10) = some (.inr (4, [.ref (x + 11), .ref (x + 12), .int tc])) → hp (x + 11) = some (.inl (kC E 0, 300, .inl en)) → (∀ q, q ≠ (x + 1) → q ≠ (x + 2) → hp q = hp0 q) → f_X10_writeFaces_L15 N pc tc en j l1 l2 otl otb = some out → AW E p l e ⟨8, 1, 6, 124⟩ s m args below meth c 3 (vx_MQ below (kQc E (P_X10_writeFaces E x hp0 al out)) (kXC E (kThr out hp0)) args s 1 6 (kA E)) hp al 1 6 15 [(0, .ref x), (1, .int l1), (2, .int l2)] [] := by
  intro j
  induction j with
  | zero =>
    intro l1 l2 otl otb hp g0 g1 g2 g3 g7 g10 g11 hfr h
    have h : (none : Option (String ⊕ (Int32 × Int32 × (Nat → Int32)))) = some out := h
    cases h
  | succ j i15 =>
    intro l1 l2 otl otb hp g0 g1 g2 g3 g7 g10 g11 hfr h
    have h : f_X10_writeFaces_L15_F N pc tc en (f_X10_writeFaces_L15 N pc tc en j) l1 l2 otl otb = some out := h
    unfold f_X10_writeFaces_L15_F at h
    refine A_iload_n X dX10_writeFaces_15 2 rfl ?_
    refine A_aload_n X dX10_writeFaces_16 0 rfl ?_
    refine A_get X dX10_writeFaces_17 kcl_X10 3 (by decide) kw_654 g0 rfl ?_
    refine A_get X dX10_writeFaces_20 kcl_X2 2 (by decide) kw_148 g3 rfl ?_
    refine A_get X dX10_writeFaces_23 kcl_X4 2 (by decide) kw_107 g10 rfl ?_
    refine A_icmp_ge (tgt := 80) X dX10_writeFaces_26 h (by decide) (fun hc h => ?_) (fun hc h => ?_)
    · refine A_aload_n X dX10_writeFaces_80 0 rfl ?_
      refine A_get X dX10_writeFaces_81 kcl_X10 2 (by decide) kw_653 g0 rfl ?_
      refine A_get X dX10_writeFaces_84 kcl_X8 1 (by decide) kw_43 g1 rfl ?_
      cases h
      exact A_iretX X dX10_writeFaces_87 hr ⟨_, rfl, rfl, g1, g2, (fun q z0 z1 => (hfr q z0 z1)), rfl⟩ (Nat.le_of_ble_eq_true rfl) (Nat.le_of_ble_eq_true rfl)
    · refine A_aload_n X dX10_writeFaces_29 0 rfl ?_
      refine A_get X dX10_writeFaces_30 kcl_X10 3 (by decide) kw_654 g0 rfl ?_
      refine A_get X dX10_writeFaces_33 kcl_X2 2 (by decide) kw_148 g3 rfl ?_
      refine A_iload_n X dX10_writeFaces_36 2 rfl ?_
      obtain ⟨t3, hct3, h⟩ := bind_o h
      refine A_cp (k' := 1) (n' := 6) (A_runV (rest := []) X dX10_writeFaces_37 (c_X4_pairIn g10 g11  hct3) kY_X4_pairIn kw_1060 g10 rfl rfl ⟨(Nat.le_of_ble_eq_true rfl), (Nat.le_of_ble_eq_true rfl), (Nat.le_of_ble_eq_true rfl), (Nat.le_of_ble_eq_true rfl)⟩ rfl (Nat.le_of_ble_eq_true rfl)) rfl rfl ?_
      obtain ⟨t4, hct4, h⟩ := bind_o h
      refine A_cp (k' := 1) (n' := 6) (A_runS (rest := []) X dX10_writeFaces_40 (c_X10_playerOf   hct4) kY_X10_playerOf kw_734 ⟨(Nat.le_of_ble_eq_true rfl), (Nat.le_of_ble_eq_true rfl), (Nat.le_of_ble_eq_true rfl), (Nat.le_of_ble_eq_true rfl)⟩ rfl (Nat.le_of_ble_eq_true rfl)) rfl rfl ?_
      refine A_iload_n X dX10_writeFaces_43 1 rfl ?_
      refine A_icmp_ne (tgt := 74) X dX10_writeFaces_44 h (by decide) (fun hc h => ?_) (fun hc h => ?_)
      · refine A_sub (L' := [(0, .ref x), (1, .int l1), (2, .int l2)]) [0, 1, 2] rfl ?_
        exact c_X10_writeFaces_L74 X hr htb i15 g0 g1 g2 g3 g7 g10 g11 (fun q z0 z1 => (hfr q z0 z1)) h
      · refine A_aload_n X dX10_writeFaces_47 0 rfl ?_
        refine A_get X dX10_writeFaces_48 kcl_X10 2 (by decide) kw_653 g0 rfl ?_
        refine A_bipush (v := 44) X dX10_writeFaces_51 (by decide) ?_
        obtain ⟨t5, hct5, h⟩ := bind_o h
        refine A_c (k' := 1) (n' := 6) rfl rfl (A_runV (rest := []) X dX10_writeFaces_53 (c_X8_appendSeparator g1 g2  hct5) kY_X8_appendSeparator kw_813 g1 rfl rfl ⟨(Nat.le_of_ble_eq_true rfl), (Nat.le_of_ble_eq_true rfl), (Nat.le_of_ble_eq_true rfl), (Nat.le_of_ble_eq_true rfl)⟩ rfl (Nat.le_of_ble_eq_true rfl)) (fun v9 hp1 al9 hP => ?_)
        obtain ⟨rfl, k1_0, k1_1, n1, rfl⟩ := hP
        replace k1_0 : hp1 (x + 1) = some (.inr (8, [.ref (x + 2), .int t5.1])) := k1_0
        replace k1_1 : hp1 (x + 2) = some (.inl (kC E 0, 900, .inl t5.2)) := k1_1
        refine A_st (st' := []) rfl ?_
        refine A_aload_n X dX10_writeFaces_56 0 rfl ?_
        refine A_get X dX10_writeFaces_57 kcl_X10 2 (by decide) kw_653 ((n1 _ (by omega) (by omega)).trans g0) rfl ?_
        refine A_aload_n X dX10_writeFaces_60 0 rfl ?_
        refine A_get X dX10_writeFaces_61 kcl_X10 3 (by decide) kw_654 ((n1 _ (by omega) (by omega)).trans g0) rfl ?_
        refine A_get X dX10_writeFaces_64 kcl_X2 2 (by decide) kw_148 ((n1 _ (by omega) (by omega)).trans g3) rfl ?_
        refine A_iload_n X dX10_writeFaces_67 2 rfl ?_
        obtain ⟨t6, hct6, h⟩ := bind_o h
        refine A_cp (k' := 1) (n' := 6) (A_runV (rest := [.ref (x + 1)]) X dX10_writeFaces_68 (c_X4_faceIn ((n1 _ (by omega) (by omega)).trans g10) ((n1 _ (by omega) (by omega)).trans g11)  hct6) kY_X4_faceIn kw_1075 ((n1 _ (by omega) (by omega)).trans g10) rfl rfl ⟨(Nat.le_of_ble_eq_true rfl), (Nat.le_of_ble_eq_true rfl), (Nat.le_of_ble_eq_true rfl), (Nat.le_of_ble_eq_true rfl)⟩ rfl (Nat.le_of_ble_eq_true rfl)) rfl rfl ?_
        obtain ⟨t7, hct7, h⟩ := bind_o h
        refine A_c (k' := 1) (n' := 6) rfl rfl (A_runV (rest := []) X dX10_writeFaces_71 (c_X8_appendNumber k1_0 k1_1  hct7) kY_X8_appendNumber kw_823 k1_0 rfl rfl ⟨(Nat.le_of_ble_eq_true rfl), (Nat.le_of_ble_eq_true rfl), (Nat.le_of_ble_eq_true rfl), (Nat.le_of_ble_eq_true rfl)⟩ rfl (Nat.le_of_ble_eq_true rfl)) (fun v9 hp2 al9 hP => ?_)
        obtain ⟨rfl, k2_0, k2_1, n2, rfl⟩ := hP
        replace k2_0 : hp2 (x + 1) = some (.inr (8, [.ref (x + 2), .int t7.1])) := k2_0
        replace k2_1 : hp2 (x + 2) = some (.inl (kC E 0, 900, .inl t7.2)) := k2_1
        refine A_st (st' := []) rfl ?_
        refine A_sub (L' := [(0, .ref x), (1, .int l1), (2, .int l2)]) [0, 1, 2] rfl ?_
        exact c_X10_writeFaces_L74 X hr htb i15 ((n2 _ (by omega) (by omega)).trans ((n1 _ (by omega) (by omega)).trans g0)) k2_0 k2_1 ((n2 _ (by omega) (by omega)).trans ((n1 _ (by omega) (by omega)).trans g3)) ((n2 _ (by omega) (by omega)).trans ((n1 _ (by omega) (by omega)).trans g7)) ((n2 _ (by omega) (by omega)).trans ((n1 _ (by omega) (by omega)).trans g10)) ((n2 _ (by omega) (by omega)).trans ((n1 _ (by omega) (by omega)).trans g11)) (fun q z0 z1 => ((n2 q z0 z1).trans ((n1 q z0 z1).trans (hfr q z0 z1)))) h
def f_X10_writeFaces (N : Nat) (pc : Int32) (tc : Int32) (en : Nat → Int32) (otl : Int32) (otb : Nat → Int32) (a0 : Int32) : Option (String ⊕ (Int32 × Int32 × (Nat → Int32))) :=
  sbd (f_X10_requirePlayer pc a0) fun t1 =>
  (f_X8_cutTo otl 0).bind fun t2 =>
  f_X10_writeFaces_L15 N pc tc en N a0 0 t2 otb
set_option maxHeartbeats 4000000 in
set_option maxRecDepth 100000 in
theorem c_X10_writeFaces {E : KE} {l : Launch} {hp : Hp} {al : Option Nat} {N : Nat} {x : Nat} {otl : Int32} {otb : Nat → Int32} {sd : Int32} {mn : Int32} {th : Int32} {pc : Int32} {tc : Int32} {en : Nat → Int32} {a0 : Int32} {out : String ⊕ (Int32 × Int32 × (Nat → Int32))} (g0 : hp x = some (.inr (10, [.ref (x + 126), .ref (x + 128), .ref (x + 1), .ref (x + 3), .ref (x + 16), .ref (x + 18), .ref (x + 124), .ref (x + 125)]))) (g1 : hp (x + 1) = some (.inr (8, [.ref (x + 2), .int otl]))) (g2 : hp (x + 2) = some (.inl (kC E 0, 900, .inl otb))) (g3 : hp (x + 3) = some (.inr (2, [.ref (x + 4), .ref (x + 7), .ref (x + 10), .ref (x + 13), .int sd, .int mn, .int th]))) (g7 : hp (x + 7) = some (.inr (7, [.ref (x + 8), .ref (x + 9), .int pc]))) (g10 : hp (x + 10) = some (.inr (4, [.ref (x + 11), .ref (x + 12), .int tc]))) (g11 : hp (x + 11) = some (.inl (kC E 0, 300, .inl en)))  (h : f_X10_writeFaces N pc tc en otl otb a0 = some out) : AX E l yX10_writeFaces cX10_writeFaces 3 (Option.some Jvm.ClassFile.FieldType.int) ⟨8, 1, 6, 124⟩ [.ref x, .int a0] hp al (P_X10_writeFaces E x hp al out) (kThr out hp) := by
  refine A_ofX (by decide +kernel) (Nat.le_of_ble_eq_true rfl) ?_
  intro p e s m args below meth c X hr htb
  have X : CX E p l s m args meth c "DiceAudit" cX10_writeFaces 3 := X
  refine A_L (L' := [(0, .ref x), (1, .int a0)]) rfl ?_
  unfold f_X10_writeFaces at h
  refine A_aload_n X dX10_writeFaces_0 0 rfl ?_
  refine A_iload_n X dX10_writeFaces_1 1 rfl ?_
  rcases sbd_o h with ⟨c9, hc9, rfl⟩ | ⟨t1, hct1, h⟩
  · exact A_cX (k' := 1) (n' := 6) rfl rfl (A_runVX (rest := []) X dX10_writeFaces_2 (c_X10_requirePlayer g0 g3 g7  hc9) kY_X10_requirePlayer kw_1029 g0 rfl rfl ⟨(Nat.le_of_ble_eq_true rfl), (Nat.le_of_ble_eq_true rfl), (Nat.le_of_ble_eq_true rfl), (Nat.le_of_ble_eq_true rfl)⟩ rfl (Nat.le_of_ble_eq_true rfl)) (fun C hp1 hP => by obtain ⟨hC, rfl⟩ := hP; cases hC; exact A_out X htb ⟨rfl, rfl⟩ (Nat.le_of_ble_eq_true rfl) (Nat.le_of_ble_eq_true rfl)) (fun v hp1 al1 hP => by obtain ⟨u, hu, _⟩ := hP; cases hu)
  refine A_cX (k' := 1) (n' := 6) rfl rfl (A_runVX (rest := []) X dX10_writeFaces_2 (c_X10_requirePlayer g0 g3 g7  hct1) kY_X10_requirePlayer kw_1029 g0 rfl rfl ⟨(Nat.le_of_ble_eq_true rfl), (Nat.le_of_ble_eq_true rfl), (Nat.le_of_ble_eq_true rfl), (Nat.le_of_ble_eq_true rfl)⟩ rfl (Nat.le_of_ble_eq_true rfl)) (fun C hp1 hP => by obtain ⟨hC, _⟩ := hP; cases hC) (fun v9 hp1 al9 hP => ?_)
  obtain ⟨u9, hu9, rfl, rfl, rfl⟩ := hP
  cases hu9
  refine A_st (st' := []) rfl ?_
  refine A_aload_n X dX10_writeFaces_5 0 rfl ?_
  refine A_get X dX10_writeFaces_6 kcl_X10 2 (by decide) kw_653 g0 rfl ?_
  refine A_iconst (v := 0) X dX10_writeFaces_9 (by decide) ?_
  obtain ⟨t2, hct2, h⟩ := bind_o h
  refine A_c (k' := 1) (n' := 6) rfl rfl (A_runV (rest := []) X dX10_writeFaces_10 (c_X8_cutTo g1  hct2) kY_X8_cutTo kw_618 g1 rfl rfl ⟨(Nat.le_of_ble_eq_true rfl), (Nat.le_of_ble_eq_true rfl), (Nat.le_of_ble_eq_true rfl), (Nat.le_of_ble_eq_true rfl)⟩ rfl (Nat.le_of_ble_eq_true rfl)) (fun v9 hp1 al9 hP => ?_)
  obtain ⟨rfl, k1_0, n1, rfl⟩ := hP
  replace k1_0 : hp1 (x + 1) = some (.inr (8, [.ref (x + 2), .int t2])) := k1_0
  refine A_st (st' := []) rfl ?_
  refine A_iconst (v := 0) X dX10_writeFaces_13 (by decide) ?_
  refine A_istore_n (L' := [(2, .int 0), (0, .ref x), (1, .int a0)]) X dX10_writeFaces_14 rfl (by decide) rfl ?_
  refine A_sub (L' := [(0, .ref x), (1, .int a0), (2, .int 0)]) [1, 2, 0] rfl ?_
  exact c_X10_writeFaces_L15 X hr htb  N ((n1 _ (by omega)).trans g0) k1_0 ((n1 _ (by omega)).trans g2) ((n1 _ (by omega)).trans g3) ((n1 _ (by omega)).trans g7) ((n1 _ (by omega)).trans g10) ((n1 _ (by omega)).trans g11) (fun q z0 z1 => (n1 q z0)) h
abbrev P_X10_outputByte (E : KE) (x : Nat)  (hp : Hp) (al : Option Nat) (out : String ⊕ (Int32)) : Option Value → Hp → Option Nat → Prop := fun v0 hp' al' => ∃ u, out = .inr u ∧ v0 = some (.int u) ∧ hp = hp' ∧ al = al'
def f_X10_outputByte_L15 (otl : Int32) (otb : Nat → Int32)   : Option (String ⊕ (Int32)) :=
  some (.inl "java/util/NoSuchElementException")
set_option maxHeartbeats 4000000 in
set_option maxRecDepth 100000 in
theorem c_X10_outputByte_L15 {E : KE} {p : Program} {l : Launch} {e : Env} {s : State} {m : MethodId} {args : Array Value} {below : List Frame} {meth : Method} {c : Code} {al : Option Nat} {x : Nat} {otl : Int32} {otb : Nat → Int32} {hp0 : Hp} {out : String ⊕ (Int32)}  (X : CX E p l s m args meth c "DiceAudit" cX10_outputByte 2) (hr : meth.sig.returnType = (Option.some Jvm.ClassFile.FieldType.int)) (htb : ∀ x ∈ c.exceptionTable.toList, False)  (g0 : hp0 x = some (.inr (10, [.ref (x + 126), .ref (x + 128), .ref (x + 1), .ref (x + 3), .ref (x + 16), .ref (x + 18), .ref (x + 124), .ref (x + 125)]))) (g1 : hp0 (x + 1) = some (.inr (8, [.ref (x + 2), .int otl]))) (g2 : hp0 (x + 2) = some (.inl (kC E 0, 900, .inl otb))) : f_X10_outputByte_L15 otl otb = some out → AW E p l e ⟨6, 1, 6, 82⟩ s m args below meth c 2 (vx_MQ below (kQc E (P_X10_outputByte E x hp0 al out)) (kXC E (kThr out hp0)) args s 1 6 (kA E)) hp0 al 0 0 15 [] [] := by
  intro  h
  unfold f_X10_outputByte_L15 at h
  cases h
  exact A_throwSW9 (Y0 := "java/lang/RuntimeException") (names := ["java/lang/Exception"]) X htb v9_d0 v9_d1 v9_d2 v9_d5 (by decide +kernel) (by decide +kernel) (by decide +kernel) kw_1033 kw_26 (List.mem_of_getElem? (i := 25) rfl) xa_X10_180 xg_X10_180 dX10_outputByte_15 dX10_outputByte_18 dX10_outputByte_19 dX10_outputByte_22 dX10_outputByte_25 (Nat.le_of_ble_eq_true rfl) (Nat.le_of_ble_eq_true rfl) (Nat.le_of_ble_eq_true rfl) (Nat.le_of_ble_eq_true rfl) ⟨rfl, rfl⟩ (Nat.le_of_ble_eq_true rfl) (Nat.le_of_ble_eq_true rfl)
def f_X10_outputByte (otl : Int32) (otb : Nat → Int32) (a0 : Int32) : Option (String ⊕ (Int32)) :=
  if a0 < 0 then
    f_X10_outputByte_L15 otl otb
  else
    if a0 < otl then
      (f_X8_byteIn otl otb a0).bind fun t1 =>
      some (.inr t1)
    else
      f_X10_outputByte_L15 otl otb
set_option maxHeartbeats 4000000 in
set_option maxRecDepth 100000 in
theorem c_X10_outputByte {E : KE} {l : Launch} {hp : Hp} {al : Option Nat} {x : Nat} {otl : Int32} {otb : Nat → Int32} {a0 : Int32} {out : String ⊕ (Int32)} (g0 : hp x = some (.inr (10, [.ref (x + 126), .ref (x + 128), .ref (x + 1), .ref (x + 3), .ref (x + 16), .ref (x + 18), .ref (x + 124), .ref (x + 125)]))) (g1 : hp (x + 1) = some (.inr (8, [.ref (x + 2), .int otl]))) (g2 : hp (x + 2) = some (.inl (kC E 0, 900, .inl otb)))  (h : f_X10_outputByte otl otb a0 = some out) : AX E l yX10_outputByte cX10_outputByte 2 (Option.some Jvm.ClassFile.FieldType.int) ⟨6, 1, 6, 82⟩ [.ref x, .int a0] hp al (P_X10_outputByte E x hp al out) (kThr out hp) := by
  refine A_ofX (by decide +kernel) (Nat.le_of_ble_eq_true rfl) ?_
  intro p e s m args below meth c X hr htb
  have X : CX E p l s m args meth c "DiceAudit" cX10_outputByte 2 := X
  refine A_L (L' := [(0, .ref x), (1, .int a0)]) rfl ?_
  unfold f_X10_outputByte at h
  refine A_iload_n X dX10_outputByte_0 1 rfl ?_
  refine A_if_lt (tgt := 15) X dX10_outputByte_1 h (by decide) (fun hc h => ?_) (fun hc h => ?_)
  · refine A_sub (L' := []) [] rfl ?_
    exact c_X10_outputByte_L15 X hr htb g0 g1 g2  h
  · refine A_iload_n X dX10_outputByte_4 1 rfl ?_
    refine A_aload_n X dX10_outputByte_5 0 rfl ?_
    refine A_get X dX10_outputByte_6 kcl_X10 2 (by decide) kw_653 g0 rfl ?_
    refine A_get X dX10_outputByte_9 kcl_X8 1 (by decide) kw_43 g1 rfl ?_
    refine A_icmp_lt (tgt := 26) X dX10_outputByte_12 h (by decide) (fun hc h => ?_) (fun hc h => ?_)
    · refine A_aload_n X dX10_outputByte_26 0 rfl ?_
      refine A_get X dX10_outputByte_27 kcl_X10 2 (by decide) kw_653 g0 rfl ?_
      refine A_iload_n X dX10_outputByte_30 1 rfl ?_
      obtain ⟨t1, hct1, h⟩ := bind_o h
      refine A_cp (k' := 0) (n' := 0) (A_runV (rest := []) X dX10_outputByte_31 (c_X8_byteIn g1 g2  hct1) kY_X8_byteIn kw_1372 g1 rfl rfl ⟨(Nat.le_of_ble_eq_true rfl), (Nat.le_of_ble_eq_true rfl), (Nat.le_of_ble_eq_true rfl), (Nat.le_of_ble_eq_true rfl)⟩ rfl (Nat.le_of_ble_eq_true rfl)) rfl rfl ?_
      cases h
      exact A_iretX X dX10_outputByte_34 hr ⟨_, rfl, rfl, rfl, rfl⟩ (Nat.le_of_ble_eq_true rfl) (Nat.le_of_ble_eq_true rfl)
    · refine A_sub (L' := []) [] rfl ?_
      exact c_X10_outputByte_L15 X hr htb g0 g1 g2  h
abbrev P_X10_save (E : KE) (x : Nat) (w : Nat)  (hp : Hp) (al : Option Nat) (out : String ⊕ (Int32 × (Nat → Int32) × Int32 × Int32 × Int32 × Int32 × (Nat → Int32) × (Nat → Int32) × Int32 × (Nat → Int32) × (Nat → Int32) × Int32 × (Nat → Int32) × (Nat → Int32) × Int32 × (Nat → Int32) × (Nat → Int32))) : Option Value → Hp → Option Nat → Prop := fun v0 hp' al' => ∃ u, out = .inr u ∧ v0 = some (.int u.1) ∧ hp' (x + 125) = some (.inl (kC E 0, 2, .inl u.2.1)) ∧ hp' w = some (.inr (2, [.ref (w + 1), .ref (w + 4), .ref (w + 7), .ref (w + 10), .int u.2.2.1, .int u.2.2.2.1, .int u.2.2.2.2.1])) ∧ hp' (w + 1) = some (.inr (0, [.ref (w + 2), .ref (w + 3), .int u.2.2.2.2.2.1])) ∧ hp' (w + 2) = some (.inl (kC E 0, 6, .inl u.2.2.2.2.2.2.1)) ∧ hp' (w + 3) = some (.inl (kC E 0, 72, .inl u.2.2.2.2.2.2.2.1)) ∧ hp' (w + 4) = some (.inr (7, [.ref (w + 5), .ref (w + 6), .int u.2.2.2.2.2.2.2.2.1])) ∧ hp' (w + 5) = some (.inl (kC E 0, 6, .inl u.2.2.2.2.2.2.2.2.2.1)) ∧ hp' (w + 6) = some (.inl (kC E 0, 24, .inl u.2.2.2.2.2.2.2.2.2.2.1)) ∧ hp' (w + 7) = some (.inr (4, [.ref (w + 8), .ref (w + 9), .int u.2.2.2.2.2.2.2.2.2.2.2.1])) ∧ hp' (w + 8) = some (.inl (kC E 0, 300, .inl u.2.2.2.2.2.2.2.2.2.2.2.2.1)) ∧ hp' (w + 9) = some (.inl (kC E 0, 432, .inl u.2.2.2.2.2.2.2.2.2.2.2.2.2.1)) ∧ hp' (w + 10) = some (.inr (6, [.ref (w + 11), .ref (w + 12), .int u.2.2.2.2.2.2.2.2.2.2.2.2.2.2.1])) ∧ hp' (w + 11) = some (.inl (kC E 0, 36, .inl u.2.2.2.2.2.2.2.2.2.2.2.2.2.2.2.1)) ∧ hp' (w + 12) = some (.inl (kC E 0, 36, .inl u.2.2.2.2.2.2.2.2.2.2.2.2.2.2.2.2)) ∧ (∀ q, q ≠ (x + 125) → q ≠ w → q ≠ (w + 1) → q ≠ (w + 2) → q ≠ (w + 3) → q ≠ (w + 4) → q ≠ (w + 5) → q ≠ (w + 6) → q ≠ (w + 7) → q ≠ (w + 8) → q ≠ (w + 9) → q ≠ (w + 10) → q ≠ (w + 11) → q ≠ (w + 12) → hp' q = hp q) ∧ al = al'
def f_X10_save_L48 (sd : Int32) (mn : Int32) (th : Int32) (dc : Int32) (fc : Nat → Int32) (dw : Nat → Int32) (pc : Int32) (ln : Nat → Int32) (lt : Nat → Int32) (tc : Int32) (en : Nat → Int32) (fr : Nat → Int32) (oc : Int32) (op : Nat → Int32) (os : Nat → Int32)  (su : Nat → Int32) (w_sd : Int32) (w_mn : Int32) (w_th : Int32) (w_dc : Int32) (w_fc : Nat → Int32) (w_dw : Nat → Int32) (w_pc : Int32) (w_ln : Nat → Int32) (w_lt : Nat → Int32) (w_tc : Int32) (w_en : Nat → Int32) (w_fr : Nat → Int32) (w_oc : Int32) (w_op : Nat → Int32) (w_os : Nat → Int32) : Option (String ⊕ (Int32 × (Nat → Int32) × Int32 × Int32 × Int32 × Int32 × (Nat → Int32) × (Nat → Int32) × Int32 × (Nat → Int32) × (Nat → Int32) × Int32 × (Nat → Int32) × (Nat → Int32) × Int32 × (Nat → Int32) × (Nat → Int32))) :=
  some (.inr (tc, su, w_sd, w_mn, w_th, w_dc, w_fc, w_dw, w_pc, w_ln, w_lt, w_tc, w_en, w_fr, w_oc, w_op, w_os))
set_option maxHeartbeats 4000000 in
set_option maxRecDepth 100000 in
theorem c_X10_save_L48 {E : KE} {p : Program} {l : Launch} {e : Env} {s : State} {m : MethodId} {args : Array Value} {below : List Frame} {meth : Method} {c : Code} {al : Option Nat} {x : Nat} {w : Nat} {sd : Int32} {mn : Int32} {th : Int32} {dc : Int32} {fc : Nat → Int32} {dw : Nat → Int32} {pc : Int32} {ln : Nat → Int32} {lt : Nat → Int32} {tc : Int32} {en : Nat → Int32} {fr : Nat → Int32} {oc : Int32} {op : Nat → Int32} {os : Nat → Int32} {srw : Nat → Option Nat} {hp0 : Hp} {out : String ⊕ (Int32 × (Nat → Int32) × Int32 × Int32 × Int32 × Int32 × (Nat → Int32) × (Nat → Int32) × Int32 × (Nat → Int32) × (Nat → Int32) × Int32 × (Nat → Int32) × (Nat → Int32) × Int32 × (Nat → Int32) × (Nat → Int32))}  (X : CX E p l s m args meth c "DiceAudit" cX10_save 2) (hr : meth.sig.returnType = (Option.some Jvm.ClassFile.FieldType.int)) (htb : ∀ x ∈ c.exceptionTable.toList, False) (hlw : (x + 143) ≤ w) (huw : (w + 13) ≤ (x + 169))  : ∀ {su : Nat → Int32} {w_sd : Int32} {w_mn : Int32} {w_th : Int32} {w_dc : Int32} {w_fc : Nat → Int32} {w_dw : Nat → Int32} {w_pc : Int32} {w_ln : Nat → Int32} {w_lt : Nat → Int32} {w_tc : Int32} {w_en : Nat → Int32} {w_fr : Nat → Int32} {w_oc : Int32} {w_op : Nat → Int32} {w_os : Nat → Int32} {hp : Hp}, hp x = some (.inr (10, [.ref (x + 126), .ref (x + 128), .ref (x + 1), .ref (x + 3), .ref (x + 16), .ref (x + 18), .ref (x + 124), .ref (x + 125)])) → hp (x + 3) = some (.inr (2, [.ref (x + 4), .ref (x + 7), .ref (x + 10), .ref (x + 13), .int sd, .int mn, .int th])) → hp (x + 4) = some (.inr (0, [.ref (x + 5), .ref (x + 6), .int dc])) → hp (x + 5) = some (.inl (kC E 0, 6, .inl fc)) → hp (x + 6) = some (.inl (kC E 0, 72, .inl dw)) → hp (x + 7) = some (.inr (7, [.ref (x + 8), .ref (x + 9), .int pc])) → hp (x + 8) = some (.inl (kC E 0, 6, .inl ln)) → hp (x + 9) = some (.inl (kC E 0, 24, .inl lt)) → hp (x + 10) = some (.inr (4, [.ref (x + 11), .ref (x + 12), .int tc])) → hp (x + 11) = some (.inl (kC E 0, 300, .inl en)) → hp (x + 12) = some (.inl (kC E 0, 432, .inl fr)) → hp (x + 13) = some (.inr (6, [.ref (x + 14), .ref (x + 15), .int oc])) → hp (x + 14) = some (.inl (kC E 0, 36, .inl op)) → hp (x + 15) = some (.inl (kC E 0, 36, .inl os)) → hp (x + 124) = some (.inl (kC E 5, 2, .inr (.inr (.inr (.inr srw))))) → hp (x + 125) = some (.inl (kC E 0, 2, .inl su)) → hp w = some (.inr (2, [.ref (w + 1), .ref (w + 4), .ref (w + 7), .ref (w + 10), .int w_sd, .int w_mn, .int w_th])) → hp (w + 1) = some (.inr (0, [.ref (w + 2), .ref (w + 3), .int w_dc])) → hp (w + 2) = some (.inl (kC E 0, 6, .inl w_fc)) → hp (w + 3) = some (.inl (kC E 0, 72, .inl w_dw)) → hp (w + 4) = some (.inr (7, [.ref (w + 5), .ref (w + 6), .int w_pc])) → hp (w + 5) = some (.inl (kC E 0, 6, .inl w_ln)) → hp (w + 6) = some (.inl (kC E 0, 24, .inl w_lt)) → hp (w + 7) = some (.inr (4, [.ref (w + 8), .ref (w + 9), .int w_tc])) → hp (w + 8) = some (.inl (kC E 0, 300, .inl w_en)) → hp (w + 9) = some (.inl (kC E 0, 432, .inl w_fr)) → hp (w + 10) = some (.inr (6, [.ref (w + 11), .ref (w + 12), .int w_oc])) → hp (w + 11) = some (.inl (kC E 0, 36, .inl w_op)) → hp (w + 12) = some (.inl (kC E 0, 36, .inl w_os)) → (∀ q, q ≠ (x + 125) → q ≠ w → q ≠ (w + 1) → q ≠ (w + 2) → q ≠ (w + 3) → q ≠ (w + 4) → q ≠ (w + 5) → q ≠ (w + 6) → q ≠ (w + 7) → q ≠ (w + 8) → q ≠ (w + 9) → q ≠ (w + 10) → q ≠ (w + 11) → q ≠ (w + 12) → hp q = hp0 q) → f_X10_save_L48 sd mn th dc fc dw pc ln lt tc en fr oc op os su w_sd w_mn w_th w_dc w_fc w_dw w_pc w_ln w_lt w_tc w_en w_fr w_oc w_op w_os = some out → AW E p l e ⟨8, 1, 6, 123⟩ s m args below meth c 2 (vx_MQ below (kQc E (P_X10_save E x w hp0 al out)) (kXC E (kThr out hp0)) args s 1 6 (kA E)) hp al 1 6 48 [(0, .ref x)] [] := by
  intro su w_sd w_mn w_th w_dc w_fc w_dw w_pc w_ln w_lt w_tc w_en w_fr w_oc w_op w_os hp g0 g3 g4 g5 g6 g7 g8 g9 g10 g11 g12 g13 g14 g15 g20 g21 g39 g40 g41 g42 g43 g44 g45 g46 g47 g48 g49 g50 g51 hfr h
  unfold f_X10_save_L48 at h
  refine A_aload_n X dX10_save_48 0 rfl ?_
  refine A_get X dX10_save_49 kcl_X10 3 (by decide) kw_654 g0 rfl ?_
  refine A_get X dX10_save_52 kcl_X2 2 (by decide) kw_148 g3 rfl ?_
  refine A_get X dX10_save_55 kcl_X4 2 (by decide) kw_107 g10 rfl ?_
  cases h
  exact A_iretX X dX10_save_58 hr ⟨_, rfl, rfl, g21, g39, g40, g41, g42, g43, g44, g45, g46, g47, g48, g49, g50, g51, (fun q z0 z1 z2 z3 z4 z5 z6 z7 z8 z9 z10 z11 z12 z13 => (hfr q z0 z1 z2 z3 z4 z5 z6 z7 z8 z9 z10 z11 z12 z13)), rfl⟩ (Nat.le_of_ble_eq_true rfl) (Nat.le_of_ble_eq_true rfl)
def f_X10_save (sd : Int32) (mn : Int32) (th : Int32) (dc : Int32) (fc : Nat → Int32) (dw : Nat → Int32) (pc : Int32) (ln : Nat → Int32) (lt : Nat → Int32) (tc : Int32) (en : Nat → Int32) (fr : Nat → Int32) (oc : Int32) (op : Nat → Int32) (os : Nat → Int32) (su : Nat → Int32) (w_sd : Int32) (w_mn : Int32) (w_th : Int32) (w_dc : Int32) (w_fc : Nat → Int32) (w_dw : Nat → Int32) (w_pc : Int32) (w_ln : Nat → Int32) (w_lt : Nat → Int32) (w_tc : Int32) (w_en : Nat → Int32) (w_fr : Nat → Int32) (w_oc : Int32) (w_op : Nat → Int32) (w_os : Nat → Int32) (a0 : Int32) : Option (String ⊕ (Int32 × (Nat → Int32) × Int32 × Int32 × Int32 × Int32 × (Nat → Int32) × (Nat → Int32) × Int32 × (Nat → Int32) × (Nat → Int32) × Int32 × (Nat → Int32) × (Nat → Int32) × Int32 × (Nat → Int32) × (Nat → Int32))) :=
  sbd (f_X10_requireSlot a0) fun t1 =>
  if a0 < 0 then
    f_X10_save_L48 sd mn th dc fc dw pc ln lt tc en fr oc op os su w_sd w_mn w_th w_dc w_fc w_dw w_pc w_ln w_lt w_tc w_en w_fr w_oc w_op w_os
  else
    if 2 ≤ a0 then
      f_X10_save_L48 sd mn th dc fc dw pc ln lt tc en fr oc op os su w_sd w_mn w_th w_dc w_fc w_dw w_pc w_ln w_lt w_tc w_en w_fr w_oc w_op w_os
    else
      gd (inb a0 2) <|
      gd (inb a0 2) <|
      (f_X2_copyFrom sd mn th dc fc dw pc ln lt tc en fr oc op os w_sd w_mn w_th w_dc w_fc w_dw w_pc w_ln w_lt w_tc w_en w_fr w_oc w_op w_os).bind fun t2 =>
      (f_X10_put 2 su a0 1).bind fun t3 =>
      f_X10_save_L48 sd mn th dc fc dw pc ln lt tc en fr oc op os t3 t2.1 t2.2.1 t2.2.2.1 t2.2.2.2.1 t2.2.2.2.2.1 t2.2.2.2.2.2.1 t2.2.2.2.2.2.2.1 t2.2.2.2.2.2.2.2.1 t2.2.2.2.2.2.2.2.2.1 t2.2.2.2.2.2.2.2.2.2.1 t2.2.2.2.2.2.2.2.2.2.2.1 t2.2.2.2.2.2.2.2.2.2.2.2.1 t2.2.2.2.2.2.2.2.2.2.2.2.2.1 t2.2.2.2.2.2.2.2.2.2.2.2.2.2.1 t2.2.2.2.2.2.2.2.2.2.2.2.2.2.2
set_option maxHeartbeats 4000000 in
set_option maxRecDepth 100000 in
theorem c_X10_save {E : KE} {l : Launch} {hp : Hp} {al : Option Nat} {x : Nat} {w : Nat} {sd : Int32} {mn : Int32} {th : Int32} {dc : Int32} {fc : Nat → Int32} {dw : Nat → Int32} {pc : Int32} {ln : Nat → Int32} {lt : Nat → Int32} {tc : Int32} {en : Nat → Int32} {fr : Nat → Int32} {oc : Int32} {op : Nat → Int32} {os : Nat → Int32} {srw : Nat → Option Nat} {su : Nat → Int32} {w_sd : Int32} {w_mn : Int32} {w_th : Int32} {w_dc : Int32} {w_fc : Nat → Int32} {w_dw : Nat → Int32} {w_pc : Int32} {w_ln : Nat → Int32} {w_lt : Nat → Int32} {w_tc : Int32} {w_en : Nat → Int32} {w_fr : Nat → Int32} {w_oc : Int32} {w_op : Nat → Int32} {w_os : Nat → Int32} {a0 : Int32} {out : String ⊕ (Int32 × (Nat → Int32) × Int32 × Int32 × Int32 × Int32 × (Nat → Int32) × (Nat → Int32) × Int32 × (Nat → Int32) × (Nat → Int32) × Int32 × (Nat → Int32) × (Nat → Int32) × Int32 × (Nat → Int32) × (Nat → Int32))} (g0 : hp x = some (.inr (10, [.ref (x + 126), .ref (x + 128), .ref (x + 1), .ref (x + 3), .ref (x + 16), .ref (x + 18), .ref (x + 124), .ref (x + 125)]))) (g3 : hp (x + 3) = some (.inr (2, [.ref (x + 4), .ref (x + 7), .ref (x + 10), .ref (x + 13), .int sd, .int mn, .int th]))) (g4 : hp (x + 4) = some (.inr (0, [.ref (x + 5), .ref (x + 6), .int dc]))) (g5 : hp (x + 5) = some (.inl (kC E 0, 6, .inl fc))) (g6 : hp (x + 6) = some (.inl (kC E 0, 72, .inl dw))) (g7 : hp (x + 7) = some (.inr (7, [.ref (x + 8), .ref (x + 9), .int pc]))) (g8 : hp (x + 8) = some (.inl (kC E 0, 6, .inl ln))) (g9 : hp (x + 9) = some (.inl (kC E 0, 24, .inl lt))) (g10 : hp (x + 10) = some (.inr (4, [.ref (x + 11), .ref (x + 12), .int tc]))) (g11 : hp (x + 11) = some (.inl (kC E 0, 300, .inl en))) (g12 : hp (x + 12) = some (.inl (kC E 0, 432, .inl fr))) (g13 : hp (x + 13) = some (.inr (6, [.ref (x + 14), .ref (x + 15), .int oc]))) (g14 : hp (x + 14) = some (.inl (kC E 0, 36, .inl op))) (g15 : hp (x + 15) = some (.inl (kC E 0, 36, .inl os))) (g20 : hp (x + 124) = some (.inl (kC E 5, 2, .inr (.inr (.inr (.inr srw)))))) (g21 : hp (x + 125) = some (.inl (kC E 0, 2, .inl su))) (g39 : hp w = some (.inr (2, [.ref (w + 1), .ref (w + 4), .ref (w + 7), .ref (w + 10), .int w_sd, .int w_mn, .int w_th]))) (g40 : hp (w + 1) = some (.inr (0, [.ref (w + 2), .ref (w + 3), .int w_dc]))) (g41 : hp (w + 2) = some (.inl (kC E 0, 6, .inl w_fc))) (g42 : hp (w + 3) = some (.inl (kC E 0, 72, .inl w_dw))) (g43 : hp (w + 4) = some (.inr (7, [.ref (w + 5), .ref (w + 6), .int w_pc]))) (g44 : hp (w + 5) = some (.inl (kC E 0, 6, .inl w_ln))) (g45 : hp (w + 6) = some (.inl (kC E 0, 24, .inl w_lt))) (g46 : hp (w + 7) = some (.inr (4, [.ref (w + 8), .ref (w + 9), .int w_tc]))) (g47 : hp (w + 8) = some (.inl (kC E 0, 300, .inl w_en))) (g48 : hp (w + 9) = some (.inl (kC E 0, 432, .inl w_fr))) (g49 : hp (w + 10) = some (.inr (6, [.ref (w + 11), .ref (w + 12), .int w_oc]))) (g50 : hp (w + 11) = some (.inl (kC E 0, 36, .inl w_op))) (g51 : hp (w + 12) = some (.inl (kC E 0, 36, .inl w_os))) (hvw : srw (Int32.toNatClampNeg a0) = some w) (hlw : (x + 143) ≤ w) (huw : (w + 13) ≤ (x + 169)) (h : f_X10_save sd mn th dc fc dw pc ln lt tc en fr oc op os su w_sd w_mn w_th w_dc w_fc w_dw w_pc w_ln w_lt w_tc w_en w_fr w_oc w_op w_os a0 = some out) : AX E l yX10_save cX10_save 2 (Option.some Jvm.ClassFile.FieldType.int) ⟨8, 1, 6, 123⟩ [.ref x, .int a0] hp al (P_X10_save E x w hp al out) (kThr out hp) := by
  refine A_ofX (by decide +kernel) (Nat.le_of_ble_eq_true rfl) ?_
  intro p e s m args below meth c X hr htb
  have X : CX E p l s m args meth c "DiceAudit" cX10_save 2 := X
  refine A_L (L' := [(0, .ref x), (1, .int a0)]) rfl ?_
  unfold f_X10_save at h
  refine A_iload_n X dX10_save_0 1 rfl ?_
  rcases sbd_o h with ⟨c9, hc9, rfl⟩ | ⟨t1, hct1, h⟩
  · exact A_cX (k' := 1) (n' := 6) rfl rfl (A_runSX (rest := []) X dX10_save_1 (c_X10_requireSlot   hc9) kY_X10_requireSlot kw_1380 ⟨(Nat.le_of_ble_eq_true rfl), (Nat.le_of_ble_eq_true rfl), (Nat.le_of_ble_eq_true rfl), (Nat.le_of_ble_eq_true rfl)⟩ rfl (Nat.le_of_ble_eq_true rfl)) (fun C hp1 hP => by obtain ⟨hC, rfl⟩ := hP; cases hC; exact A_out X htb ⟨rfl, rfl⟩ (Nat.le_of_ble_eq_true rfl) (Nat.le_of_ble_eq_true rfl)) (fun v hp1 al1 hP => by obtain ⟨u, hu, _⟩ := hP; cases hu)
  refine A_cX (k' := 1) (n' := 6) rfl rfl (A_runSX (rest := []) X dX10_save_1 (c_X10_requireSlot   hct1) kY_X10_requireSlot kw_1380 ⟨(Nat.le_of_ble_eq_true rfl), (Nat.le_of_ble_eq_true rfl), (Nat.le_of_ble_eq_true rfl), (Nat.le_of_ble_eq_true rfl)⟩ rfl (Nat.le_of_ble_eq_true rfl)) (fun C hp1 hP => by obtain ⟨hC, _⟩ := hP; cases hC) (fun v9 hp1 al9 hP => ?_)
  obtain ⟨u9, hu9, rfl, rfl, rfl⟩ := hP
  cases hu9
  refine A_st (st' := []) rfl ?_
  refine A_iload_n X dX10_save_4 1 rfl ?_
  refine A_if_lt (tgt := 48) X dX10_save_5 h (by decide) (fun hc h => ?_) (fun hc h => ?_)
  · refine A_sub (L' := [(0, .ref x)]) [0] rfl ?_
    exact c_X10_save_L48 X hr htb hlw huw g0 g3 g4 g5 g6 g7 g8 g9 g10 g11 g12 g13 g14 g15 g20 g21 g39 g40 g41 g42 g43 g44 g45 g46 g47 g48 g49 g50 g51 (fun q z0 z1 z2 z3 z4 z5 z6 z7 z8 z9 z10 z11 z12 z13 => rfl) h
  · refine A_iload_n X dX10_save_8 1 rfl ?_
    refine A_aload_n X dX10_save_9 0 rfl ?_
    refine A_get X dX10_save_10 kcl_X10 6 (by decide) kw_657 g0 rfl ?_
    refine A_alen (t := 5) (v := 2) X dX10_save_13 g20 rfl (by decide) ?_
    refine A_icmp_ge (tgt := 48) X dX10_save_14 h (by decide) (fun hc h => ?_) (fun hc h => ?_)
    · refine A_sub (L' := [(0, .ref x)]) [0] rfl ?_
      exact c_X10_save_L48 X hr htb hlw huw g0 g3 g4 g5 g6 g7 g8 g9 g10 g11 g12 g13 g14 g15 g20 g21 g39 g40 g41 g42 g43 g44 g45 g46 g47 g48 g49 g50 g51 (fun q z0 z1 z2 z3 z4 z5 z6 z7 z8 z9 z10 z11 z12 z13 => rfl) h
    · refine A_aload_n X dX10_save_17 0 rfl ?_
      refine A_get X dX10_save_18 kcl_X10 6 (by decide) kw_657 g0 rfl ?_
      refine A_iload_n X dX10_save_21 1 rfl ?_
      obtain ⟨hq, h⟩ := gd_o h
      refine A_aald X dX10_save_22 g20 hq ?_
      refine A_st (st' := [.ref w]) (by rw [hvw]; rfl) ?_
      refine A_ifnull X dX10_save_23 ?_
      refine A_aload_n X dX10_save_26 0 rfl ?_
      refine A_get X dX10_save_27 kcl_X10 6 (by decide) kw_657 g0 rfl ?_
      refine A_iload_n X dX10_save_30 1 rfl ?_
      obtain ⟨hq, h⟩ := gd_o h
      refine A_aald X dX10_save_31 g20 hq ?_
      refine A_st (st' := [.ref w]) (by rw [hvw]; rfl) ?_
      refine A_aload_n X dX10_save_32 0 rfl ?_
      refine A_get X dX10_save_33 kcl_X10 3 (by decide) kw_654 g0 rfl ?_
      obtain ⟨t2, hct2, h⟩ := bind_o h
      refine A_c (k' := 1) (n' := 6) rfl rfl (A_runV (rest := []) X dX10_save_36 (c_X2_copyFrom g39 g40 g41 g42 g43 g44 g45 g46 g47 g48 g49 g50 g51 g3 g4 g5 g6 g7 g8 g9 g10 g11 g12 g13 g14 g15 (by omega) hct2) kY_X2_copyFrom kw_622 g39 rfl rfl ⟨(Nat.le_of_ble_eq_true rfl), (Nat.le_of_ble_eq_true rfl), (Nat.le_of_ble_eq_true rfl), (Nat.le_of_ble_eq_true rfl)⟩ rfl (Nat.le_of_ble_eq_true rfl)) (fun v9 hp1 al9 hP => ?_)
      obtain ⟨rfl, k1_0, k1_1, k1_2, k1_3, k1_4, k1_5, k1_6, k1_7, k1_8, k1_9, k1_10, k1_11, k1_12, n1, rfl⟩ := hP
      replace k1_0 : hp1 w = some (.inr (2, [.ref (w + 1), .ref (w + 4), .ref (w + 7), .ref (w + 10), .int t2.1, .int t2.2.1, .int t2.2.2.1])) := k1_0
      replace k1_1 : hp1 (w + 1) = some (.inr (0, [.ref (w + 2), .ref (w + 3), .int t2.2.2.2.1])) := k1_1
      replace k1_2 : hp1 (w + 2) = some (.inl (kC E 0, 6, .inl t2.2.2.2.2.1)) := k1_2
      replace k1_3 : hp1 (w + 3) = some (.inl (kC E 0, 72, .inl t2.2.2.2.2.2.1)) := k1_3
      replace k1_4 : hp1 (w + 4) = some (.inr (7, [.ref (w + 5), .ref (w + 6), .int t2.2.2.2.2.2.2.1])) := k1_4
      replace k1_5 : hp1 (w + 5) = some (.inl (kC E 0, 6, .inl t2.2.2.2.2.2.2.2.1)) := k1_5
      replace k1_6 : hp1 (w + 6) = some (.inl (kC E 0, 24, .inl t2.2.2.2.2.2.2.2.2.1)) := k1_6
      replace k1_7 : hp1 (w + 7) = some (.inr (4, [.ref (w + 8), .ref (w + 9), .int t2.2.2.2.2.2.2.2.2.2.1])) := k1_7
      replace k1_8 : hp1 (w + 8) = some (.inl (kC E 0, 300, .inl t2.2.2.2.2.2.2.2.2.2.2.1)) := k1_8
      replace k1_9 : hp1 (w + 9) = some (.inl (kC E 0, 432, .inl t2.2.2.2.2.2.2.2.2.2.2.2.1)) := k1_9
      replace k1_10 : hp1 (w + 10) = some (.inr (6, [.ref (w + 11), .ref (w + 12), .int t2.2.2.2.2.2.2.2.2.2.2.2.2.1])) := k1_10
      replace k1_11 : hp1 (w + 11) = some (.inl (kC E 0, 36, .inl t2.2.2.2.2.2.2.2.2.2.2.2.2.2.1)) := k1_11
      replace k1_12 : hp1 (w + 12) = some (.inl (kC E 0, 36, .inl t2.2.2.2.2.2.2.2.2.2.2.2.2.2.2)) := k1_12
      refine A_st (st' := []) rfl ?_
      refine A_aload_n X dX10_save_39 0 rfl ?_
      refine A_get X dX10_save_40 kcl_X10 7 (by decide) kw_658 ((n1 _ (by omega) (by omega) (by omega) (by omega) (by omega) (by omega) (by omega) (by omega) (by omega) (by omega) (by omega) (by omega) (by omega)).trans g0) rfl ?_
      refine A_iload_n X dX10_save_43 1 rfl ?_
      refine A_iconst (v := 1) X dX10_save_44 (by decide) ?_
      obtain ⟨t3, hct3, h⟩ := bind_o h
      refine A_c (k' := 1) (n' := 6) rfl rfl (A_runS (rest := []) X dX10_save_45 (c_X10_put ((n1 _ (by omega) (by omega) (by omega) (by omega) (by omega) (by omega) (by omega) (by omega) (by omega) (by omega) (by omega) (by omega) (by omega)).trans g21)  hct3) kY_X10_put kw_1383 ⟨(Nat.le_of_ble_eq_true rfl), (Nat.le_of_ble_eq_true rfl), (Nat.le_of_ble_eq_true rfl), (Nat.le_of_ble_eq_true rfl)⟩ rfl (Nat.le_of_ble_eq_true rfl)) (fun v9 hp2 al9 hP => ?_)
      obtain ⟨rfl, k2_0, n2, rfl⟩ := hP
      replace k2_0 : hp2 (x + 125) = some (.inl (kC E 0, 2, .inl t3)) := k2_0
      refine A_st (st' := []) rfl ?_
      refine A_sub (L' := [(0, .ref x)]) [0] rfl ?_
      exact c_X10_save_L48 X hr htb hlw huw ((n2 _ (by omega)).trans ((n1 _ (by omega) (by omega) (by omega) (by omega) (by omega) (by omega) (by omega) (by omega) (by omega) (by omega) (by omega) (by omega) (by omega)).trans g0)) ((n2 _ (by omega)).trans ((n1 _ (by omega) (by omega) (by omega) (by omega) (by omega) (by omega) (by omega) (by omega) (by omega) (by omega) (by omega) (by omega) (by omega)).trans g3)) ((n2 _ (by omega)).trans ((n1 _ (by omega) (by omega) (by omega) (by omega) (by omega) (by omega) (by omega) (by omega) (by omega) (by omega) (by omega) (by omega) (by omega)).trans g4)) ((n2 _ (by omega)).trans ((n1 _ (by omega) (by omega) (by omega) (by omega) (by omega) (by omega) (by omega) (by omega) (by omega) (by omega) (by omega) (by omega) (by omega)).trans g5)) ((n2 _ (by omega)).trans ((n1 _ (by omega) (by omega) (by omega) (by omega) (by omega) (by omega) (by omega) (by omega) (by omega) (by omega) (by omega) (by omega) (by omega)).trans g6)) ((n2 _ (by omega)).trans ((n1 _ (by omega) (by omega) (by omega) (by omega) (by omega) (by omega) (by omega) (by omega) (by omega) (by omega) (by omega) (by omega) (by omega)).trans g7)) ((n2 _ (by omega)).trans ((n1 _ (by omega) (by omega) (by omega) (by omega) (by omega) (by omega) (by omega) (by omega) (by omega) (by omega) (by omega) (by omega) (by omega)).trans g8)) ((n2 _ (by omega)).trans ((n1 _ (by omega) (by omega) (by omega) (by omega) (by omega) (by omega) (by omega) (by omega) (by omega) (by omega) (by omega) (by omega) (by omega)).trans g9)) ((n2 _ (by omega)).trans ((n1 _ (by omega) (by omega) (by omega) (by omega) (by omega) (by omega) (by omega) (by omega) (by omega) (by omega) (by omega) (by omega) (by omega)).trans g10)) ((n2 _ (by omega)).trans ((n1 _ (by omega) (by omega) (by omega) (by omega) (by omega) (by omega) (by omega) (by omega) (by omega) (by omega) (by omega) (by omega) (by omega)).trans g11)) ((n2 _ (by omega)).trans ((n1 _ (by omega) (by omega) (by omega) (by omega) (by omega) (by omega) (by omega) (by omega) (by omega) (by omega) (by omega) (by omega) (by omega)).trans g12)) ((n2 _ (by omega)).trans ((n1 _ (by omega) (by omega) (by omega) (by omega) (by omega) (by omega) (by omega) (by omega) (by omega) (by omega) (by omega) (by omega) (by omega)).trans g13)) ((n2 _ (by omega)).trans ((n1 _ (by omega) (by omega) (by omega) (by omega) (by omega) (by omega) (by omega) (by omega) (by omega) (by omega) (by omega) (by omega) (by omega)).trans g14)) ((n2 _ (by omega)).trans ((n1 _ (by omega) (by omega) (by omega) (by omega) (by omega) (by omega) (by omega) (by omega) (by omega) (by omega) (by omega) (by omega) (by omega)).trans g15)) ((n2 _ (by omega)).trans ((n1 _ (by omega) (by omega) (by omega) (by omega) (by omega) (by omega) (by omega) (by omega) (by omega) (by omega) (by omega) (by omega) (by omega)).trans g20)) k2_0 ((n2 _ (by omega)).trans k1_0) ((n2 _ (by omega)).trans k1_1) ((n2 _ (by omega)).trans k1_2) ((n2 _ (by omega)).trans k1_3) ((n2 _ (by omega)).trans k1_4) ((n2 _ (by omega)).trans k1_5) ((n2 _ (by omega)).trans k1_6) ((n2 _ (by omega)).trans k1_7) ((n2 _ (by omega)).trans k1_8) ((n2 _ (by omega)).trans k1_9) ((n2 _ (by omega)).trans k1_10) ((n2 _ (by omega)).trans k1_11) ((n2 _ (by omega)).trans k1_12) (fun q z0 z1 z2 z3 z4 z5 z6 z7 z8 z9 z10 z11 z12 z13 => ((n2 q z0).trans (n1 q z1 z2 z3 z4 z5 z6 z7 z8 z9 z10 z11 z12 z13))) h
abbrev P_X10_restore (E : KE) (x : Nat) (v : Nat) (w : Nat)  (hp : Hp) (al : Option Nat) (out : String ⊕ (Int32 × Int32 × Int32 × Int32 × Int32 × (Nat → Int32) × (Nat → Int32) × Int32 × (Nat → Int32) × (Nat → Int32) × Int32 × (Nat → Int32) × (Nat → Int32) × Int32 × (Nat → Int32) × (Nat → Int32) × Int32 × Int32 × Int32 × Int32 × Int32 × Int32 × (Nat → Int32) × (Nat → Int32) × Int32 × (Nat → Int32) × (Nat → Int32) × Int32 × (Nat → Int32) × (Nat → Int32) × Int32 × (Nat → Int32) × (Nat → Int32))) : Option Value → Hp → Option Nat → Prop := fun v0 hp' al' => ∃ u, out = .inr u ∧ v0 = some (.int u.1) ∧ hp' (x + 3) = some (.inr (2, [.ref (x + 4), .ref (x + 7), .ref (x + 10), .ref (x + 13), .int u.2.1, .int u.2.2.1, .int u.2.2.2.1])) ∧ hp' (x + 4) = some (.inr (0, [.ref (x + 5), .ref (x + 6), .int u.2.2.2.2.1])) ∧ hp' (x + 5) = some (.inl (kC E 0, 6, .inl u.2.2.2.2.2.1)) ∧ hp' (x + 6) = some (.inl (kC E 0, 72, .inl u.2.2.2.2.2.2.1)) ∧ hp' (x + 7) = some (.inr (7, [.ref (x + 8), .ref (x + 9), .int u.2.2.2.2.2.2.2.1])) ∧ hp' (x + 8) = some (.inl (kC E 0, 6, .inl u.2.2.2.2.2.2.2.2.1)) ∧ hp' (x + 9) = some (.inl (kC E 0, 24, .inl u.2.2.2.2.2.2.2.2.2.1)) ∧ hp' (x + 10) = some (.inr (4, [.ref (x + 11), .ref (x + 12), .int u.2.2.2.2.2.2.2.2.2.2.1])) ∧ hp' (x + 11) = some (.inl (kC E 0, 300, .inl u.2.2.2.2.2.2.2.2.2.2.2.1)) ∧ hp' (x + 12) = some (.inl (kC E 0, 432, .inl u.2.2.2.2.2.2.2.2.2.2.2.2.1)) ∧ hp' (x + 13) = some (.inr (6, [.ref (x + 14), .ref (x + 15), .int u.2.2.2.2.2.2.2.2.2.2.2.2.2.1])) ∧ hp' (x + 14) = some (.inl (kC E 0, 36, .inl u.2.2.2.2.2.2.2.2.2.2.2.2.2.2.1)) ∧ hp' (x + 15) = some (.inl (kC E 0, 36, .inl u.2.2.2.2.2.2.2.2.2.2.2.2.2.2.2.1)) ∧ hp' (x + 18) = some (.inr (3, [.ref (x + 19), .int u.2.2.2.2.2.2.2.2.2.2.2.2.2.2.2.2.1, .int u.2.2.2.2.2.2.2.2.2.2.2.2.2.2.2.2.2.1])) ∧ hp' v = some (.inr (2, [.ref (v + 1), .ref (v + 4), .ref (v + 7), .ref (v + 10), .int u.2.2.2.2.2.2.2.2.2.2.2.2.2.2.2.2.2.2.1, .int u.2.2.2.2.2.2.2.2.2.2.2.2.2.2.2.2.2.2.2.1, .int u.2.2.2.2.2.2.2.2.2.2.2.2.2.2.2.2.2.2.2.2.1])) ∧ hp' (v + 1) = some (.inr (0, [.ref (v + 2), .ref (v + 3), .int u.2.2.2.2.2.2.2.2.2.2.2.2.2.2.2.2.2.2.2.2.2.1])) ∧ hp' (v + 2) = some (.inl (kC E 0, 6, .inl u.2.2.2.2.2.2.2.2.2.2.2.2.2.2.2.2.2.2.2.2.2.2.1)) ∧ hp' (v + 3) = some (.inl (kC E 0, 72, .inl u.2.2.2.2.2.2.2.2.2.2.2.2.2.2.2.2.2.2.2.2.2.2.2.1)) ∧ hp' (v + 4) = some (.inr (7, [.ref (v + 5), .ref (v + 6), .int u.2.2.2.2.2.2.2.2.2.2.2.2.2.2.2.2.2.2.2.2.2.2.2.2.1])) ∧ hp' (v + 5) = some (.inl (kC E 0, 6, .inl u.2.2.2.2.2.2.2.2.2.2.2.2.2.2.2.2.2.2.2.2.2.2.2.2.2.1)) ∧ hp' (v + 6) = some (.inl (kC E 0, 24, .inl u.2.2.2.2.2.2.2.2.2.2.2.2.2.2.2.2.2.2.2.2.2.2.2.2.2.2.1)) ∧ hp' (v + 7) = some (.inr (4, [.ref (v + 8), .ref (v + 9), .int u.2.2.2.2.2.2.2.2.2.2.2.2.2.2.2.2.2.2.2.2.2.2.2.2.2.2.2.1])) ∧ hp' (v + 8) = some (.inl (kC E 0, 300, .inl u.2.2.2.2.2.2.2.2.2.2.2.2.2.2.2.2.2.2.2.2.2.2.2.2.2.2.2.2.1)) ∧ hp' (v + 9) = some (.inl (kC E 0, 432, .inl u.2.2.2.2.2.2.2.2.2.2.2.2.2.2.2.2.2.2.2.2.2.2.2.2.2.2.2.2.2.1)) ∧ hp' (v + 10) = some (.inr (6, [.ref (v + 11), .ref (v + 12), .int u.2.2.2.2.2.2.2.2.2.2.2.2.2.2.2.2.2.2.2.2.2.2.2.2.2.2.2.2.2.2.1])) ∧ hp' (v + 11) = some (.inl (kC E 0, 36, .inl u.2.2.2.2.2.2.2.2.2.2.2.2.2.2.2.2.2.2.2.2.2.2.2.2.2.2.2.2.2.2.2.1)) ∧ hp' (v + 12) = some (.inl (kC E 0, 36, .inl u.2.2.2.2.2.2.2.2.2.2.2.2.2.2.2.2.2.2.2.2.2.2.2.2.2.2.2.2.2.2.2.2)) ∧ (∀ q, q ≠ (x + 3) → q ≠ (x + 4) → q ≠ (x + 5) → q ≠ (x + 6) → q ≠ (x + 7) → q ≠ (x + 8) → q ≠ (x + 9) → q ≠ (x + 10) → q ≠ (x + 11) → q ≠ (x + 12) → q ≠ (x + 13) → q ≠ (x + 14) → q ≠ (x + 15) → q ≠ (x + 18) → q ≠ v → q ≠ (v + 1) → q ≠ (v + 2) → q ≠ (v + 3) → q ≠ (v + 4) → q ≠ (v + 5) → q ≠ (v + 6) → q ≠ (v + 7) → q ≠ (v + 8) → q ≠ (v + 9) → q ≠ (v + 10) → q ≠ (v + 11) → q ≠ (v + 12) → hp' q = hp q) ∧ al = al'
def f_X10_restore_L72 (su : Nat → Int32) (w_sd : Int32) (w_mn : Int32) (w_th : Int32) (w_dc : Int32) (w_fc : Nat → Int32) (w_dw : Nat → Int32) (w_pc : Int32) (w_ln : Nat → Int32) (w_lt : Nat → Int32) (w_tc : Int32) (w_en : Nat → Int32) (w_fr : Nat → Int32) (w_oc : Int32) (w_op : Nat → Int32) (w_os : Nat → Int32)  (sd : Int32) (mn : Int32) (th : Int32) (dc : Int32) (fc : Nat → Int32) (dw : Nat → Int32) (pc : Int32) (ln : Nat → Int32) (lt : Nat → Int32) (tc : Int32) (en : Nat → Int32) (fr : Nat → Int32) (oc : Int32) (op : Nat → Int32) (os : Nat → Int32) (nx : Int32) (dp : Int32) (v_sd : Int32) (v_mn : Int32) (v_th : Int32) (v_dc : Int32) (v_fc : Nat → Int32) (v_dw : Nat → Int32) (v_pc : Int32) (v_ln : Nat → Int32) (v_lt : Nat → Int32) (v_tc : Int32) (v_en : Nat → Int32) (v_fr : Nat → Int32) (v_oc : Int32) (v_op : Nat → Int32) (v_os : Nat → Int32) : Option (String ⊕ (Int32 × Int32 × Int32 × Int32 × Int32 × (Nat → Int32) × (Nat → Int32) × Int32 × (Nat → Int32) × (Nat → Int32) × Int32 × (Nat → Int32) × (Nat → Int32) × Int32 × (Nat → Int32) × (Nat → Int32) × Int32 × Int32 × Int32 × Int32 × Int32 × Int32 × (Nat → Int32) × (Nat → Int32) × Int32 × (Nat → Int32) × (Nat → Int32) × Int32 × (Nat → Int32) × (Nat → Int32) × Int32 × (Nat → Int32) × (Nat → Int32))) :=
  some (.inr (tc, sd, mn, th, dc, fc, dw, pc, ln, lt, tc, en, fr, oc, op, os, nx, dp, v_sd, v_mn, v_th, v_dc, v_fc, v_dw, v_pc, v_ln, v_lt, v_tc, v_en, v_fr, v_oc, v_op, v_os))
set_option maxHeartbeats 4000000 in
set_option maxRecDepth 100000 in
theorem c_X10_restore_L72 {E : KE} {p : Program} {l : Launch} {e : Env} {s : State} {m : MethodId} {args : Array Value} {below : List Frame} {meth : Method} {c : Code} {al : Option Nat} {x : Nat} {v : Nat} {w : Nat} {rws : Nat → Option Nat} {srw : Nat → Option Nat} {su : Nat → Int32} {w_sd : Int32} {w_mn : Int32} {w_th : Int32} {w_dc : Int32} {w_fc : Nat → Int32} {w_dw : Nat → Int32} {w_pc : Int32} {w_ln : Nat → Int32} {w_lt : Nat → Int32} {w_tc : Int32} {w_en : Nat → Int32} {w_fr : Nat → Int32} {w_oc : Int32} {w_op : Nat → Int32} {w_os : Nat → Int32} {hp0 : Hp} {out : String ⊕ (Int32 × Int32 × Int32 × Int32 × Int32 × (Nat → Int32) × (Nat → Int32) × Int32 × (Nat → Int32) × (Nat → Int32) × Int32 × (Nat → Int32) × (Nat → Int32) × Int32 × (Nat → Int32) × (Nat → Int32) × Int32 × Int32 × Int32 × Int32 × Int32 × Int32 × (Nat → Int32) × (Nat → Int32) × Int32 × (Nat → Int32) × (Nat → Int32) × Int32 × (Nat → Int32) × (Nat → Int32) × Int32 × (Nat → Int32) × (Nat → Int32))}  (X : CX E p l s m args meth c "DiceAudit" cX10_restore 2) (hr : meth.sig.returnType = (Option.some Jvm.ClassFile.FieldType.int)) (htb : ∀ x ∈ c.exceptionTable.toList, False) (hlv : (x + 20) ≤ v) (huv : (v + 13) ≤ (x + 124)) (hlw : (x + 143) ≤ w) (huw : (w + 13) ≤ (x + 169))  : ∀ {sd : Int32} {mn : Int32} {th : Int32} {dc : Int32} {fc : Nat → Int32} {dw : Nat → Int32} {pc : Int32} {ln : Nat → Int32} {lt : Nat → Int32} {tc : Int32} {en : Nat → Int32} {fr : Nat → Int32} {oc : Int32} {op : Nat → Int32} {os : Nat → Int32} {nx : Int32} {dp : Int32} {v_sd : Int32} {v_mn : Int32} {v_th : Int32} {v_dc : Int32} {v_fc : Nat → Int32} {v_dw : Nat → Int32} {v_pc : Int32} {v_ln : Nat → Int32} {v_lt : Nat → Int32} {v_tc : Int32} {v_en : Nat → Int32} {v_fr : Nat → Int32} {v_oc : Int32} {v_op : Nat → Int32} {v_os : Nat → Int32} {hp : Hp}, hp x = some (.inr (10, [.ref (x + 126), .ref (x + 128), .ref (x + 1), .ref (x + 3), .ref (x + 16), .ref (x + 18), .ref (x + 124), .ref (x + 125)])) → hp (x + 3) = some (.inr (2, [.ref (x + 4), .ref (x + 7), .ref (x + 10), .ref (x + 13), .int sd, .int mn, .int th])) → hp (x + 4) = some (.inr (0, [.ref (x + 5), .ref (x + 6), .int dc])) → hp (x + 5) = some (.inl (kC E 0, 6, .inl fc)) → hp (x + 6) = some (.inl (kC E 0, 72, .inl dw)) → hp (x + 7) = some (.inr (7, [.ref (x + 8), .ref (x + 9), .int pc])) → hp (x + 8) = some (.inl (kC E 0, 6, .inl ln)) → hp (x + 9) = some (.inl (kC E 0, 24, .inl lt)) → hp (x + 10) = some (.inr (4, [.ref (x + 11), .ref (x + 12), .int tc])) → hp (x + 11) = some (.inl (kC E 0, 300, .inl en)) → hp (x + 12) = some (.inl (kC E 0, 432, .inl fr)) → hp (x + 13) = some (.inr (6, [.ref (x + 14), .ref (x + 15), .int oc])) → hp (x + 14) = some (.inl (kC E 0, 36, .inl op)) → hp (x + 15) = some (.inl (kC E 0, 36, .inl os)) → hp (x + 18) = some (.inr (3, [.ref (x + 19), .int nx, .int dp])) → hp (x + 19) = some (.inl (kC E 5, 8, .inr (.inr (.inr (.inr rws))))) → hp (x + 124) = some (.inl (kC E 5, 2, .inr (.inr (.inr (.inr srw))))) → hp (x + 125) = some (.inl (kC E 0, 2, .inl su)) → hp v = some (.inr (2, [.ref (v + 1), .ref (v + 4), .ref (v + 7), .ref (v + 10), .int v_sd, .int v_mn, .int v_th])) → hp (v + 1) = some (.inr (0, [.ref (v + 2), .ref (v + 3), .int v_dc])) → hp (v + 2) = some (.inl (kC E 0, 6, .inl v_fc)) → hp (v + 3) = some (.inl (kC E 0, 72, .inl v_dw)) → hp (v + 4) = some (.inr (7, [.ref (v + 5), .ref (v + 6), .int v_pc])) → hp (v + 5) = some (.inl (kC E 0, 6, .inl v_ln)) → hp (v + 6) = some (.inl (kC E 0, 24, .inl v_lt)) → hp (v + 7) = some (.inr (4, [.ref (v + 8), .ref (v + 9), .int v_tc])) → hp (v + 8) = some (.inl (kC E 0, 300, .inl v_en)) → hp (v + 9) = some (.inl (kC E 0, 432, .inl v_fr)) → hp (v + 10) = some (.inr (6, [.ref (v + 11), .ref (v + 12), .int v_oc])) → hp (v + 11) = some (.inl (kC E 0, 36, .inl v_op)) → hp (v + 12) = some (.inl (kC E 0, 36, .inl v_os)) → hp w = some (.inr (2, [.ref (w + 1), .ref (w + 4), .ref (w + 7), .ref (w + 10), .int w_sd, .int w_mn, .int w_th])) → hp (w + 1) = some (.inr (0, [.ref (w + 2), .ref (w + 3), .int w_dc])) → hp (w + 2) = some (.inl (kC E 0, 6, .inl w_fc)) → hp (w + 3) = some (.inl (kC E 0, 72, .inl w_dw)) → hp (w + 4) = some (.inr (7, [.ref (w + 5), .ref (w + 6), .int w_pc])) → hp (w + 5) = some (.inl (kC E 0, 6, .inl w_ln)) → hp (w + 6) = some (.inl (kC E 0, 24, .inl w_lt)) → hp (w + 7) = some (.inr (4, [.ref (w + 8), .ref (w + 9), .int w_tc])) → hp (w + 8) = some (.inl (kC E 0, 300, .inl w_en)) → hp (w + 9) = some (.inl (kC E 0, 432, .inl w_fr)) → hp (w + 10) = some (.inr (6, [.ref (w + 11), .ref (w + 12), .int w_oc])) → hp (w + 11) = some (.inl (kC E 0, 36, .inl w_op)) → hp (w + 12) = some (.inl (kC E 0, 36, .inl w_os)) → (∀ q, q ≠ (x + 3) → q ≠ (x + 4) → q ≠ (x + 5) → q ≠ (x + 6) → q ≠ (x + 7) → q ≠ (x + 8) → q ≠ (x + 9) → q ≠ (x + 10) → q ≠ (x + 11) → q ≠ (x + 12) → q ≠ (x + 13) → q ≠ (x + 14) → q ≠ (x + 15) → q ≠ (x + 18) → q ≠ v → q ≠ (v + 1) → q ≠ (v + 2) → q ≠ (v + 3) → q ≠ (v + 4) → q ≠ (v + 5) → q ≠ (v + 6) → q ≠ (v + 7) → q ≠ (v + 8) → q ≠ (v + 9) → q ≠ (v + 10) → q ≠ (v + 11) → q ≠ (v + 12) → hp q = hp0 q) → f_X10_restore_L72 su w_sd w_mn w_th w_dc w_fc w_dw w_pc w_ln w_lt w_tc w_en w_fr w_oc w_op w_os sd mn th dc fc dw pc ln lt tc en fr oc op os nx dp v_sd v_mn v_th v_dc v_fc v_dw v_pc v_ln v_lt v_tc v_en v_fr v_oc v_op v_os = some out → AW E p l e ⟨8, 2, 12, 123⟩ s m args below meth c 2 (vx_MQ below (kQc E (P_X10_restore E x v w hp0 al out)) (kXC E (kThr out hp0)) args s 2 12 (kA E)) hp al 1 6 72 [(0, .ref x)] [] := by
  intro sd mn th dc fc dw pc ln lt tc en fr oc op os nx dp v_sd v_mn v_th v_dc v_fc v_dw v_pc v_ln v_lt v_tc v_en v_fr v_oc v_op v_os hp g0 g3 g4 g5 g6 g7 g8 g9 g10 g11 g12 g13 g14 g15 g18 g19 g20 g21 g39 g40 g41 g42 g43 g44 g45 g46 g47 g48 g49 g50 g51 g52 g53 g54 g55 g56 g57 g58 g59 g60 g61 g62 g63 g64 hfr h
  unfold f_X10_restore_L72 at h
  refine A_aload_n X dX10_restore_72 0 rfl ?_
  refine A_get X dX10_restore_73 kcl_X10 3 (by decide) kw_654 g0 rfl ?_
  refine A_get X dX10_restore_76 kcl_X2 2 (by decide) kw_148 g3 rfl ?_
  refine A_get X dX10_restore_79 kcl_X4 2 (by decide) kw_107 g10 rfl ?_
  cases h
  exact A_iretX X dX10_restore_82 hr ⟨_, rfl, rfl, g3, g4, g5, g6, g7, g8, g9, g10, g11, g12, g13, g14, g15, g18, g39, g40, g41, g42, g43, g44, g45, g46, g47, g48, g49, g50, g51, (fun q z0 z1 z2 z3 z4 z5 z6 z7 z8 z9 z10 z11 z12 z13 z14 z15 z16 z17 z18 z19 z20 z21 z22 z23 z24 z25 z26 => (hfr q z0 z1 z2 z3 z4 z5 z6 z7 z8 z9 z10 z11 z12 z13 z14 z15 z16 z17 z18 z19 z20 z21 z22 z23 z24 z25 z26)), rfl⟩ (Nat.le_of_ble_eq_true rfl) (Nat.le_of_ble_eq_true rfl)
def f_X10_restore (su : Nat → Int32) (w_sd : Int32) (w_mn : Int32) (w_th : Int32) (w_dc : Int32) (w_fc : Nat → Int32) (w_dw : Nat → Int32) (w_pc : Int32) (w_ln : Nat → Int32) (w_lt : Nat → Int32) (w_tc : Int32) (w_en : Nat → Int32) (w_fr : Nat → Int32) (w_oc : Int32) (w_op : Nat → Int32) (w_os : Nat → Int32) (sd : Int32) (mn : Int32) (th : Int32) (dc : Int32) (fc : Nat → Int32) (dw : Nat → Int32) (pc : Int32) (ln : Nat → Int32) (lt : Nat → Int32) (tc : Int32) (en : Nat → Int32) (fr : Nat → Int32) (oc : Int32) (op : Nat → Int32) (os : Nat → Int32) (nx : Int32) (dp : Int32) (v_sd : Int32) (v_mn : Int32) (v_th : Int32) (v_dc : Int32) (v_fc : Nat → Int32) (v_dw : Nat → Int32) (v_pc : Int32) (v_ln : Nat → Int32) (v_lt : Nat → Int32) (v_tc : Int32) (v_en : Nat → Int32) (v_fr : Nat → Int32) (v_oc : Int32) (v_op : Nat → Int32) (v_os : Nat → Int32) (a0 : Int32) : Option (String ⊕ (Int32 × Int32 × Int32 × Int32 × Int32 × (Nat → Int32) × (Nat → Int32) × Int32 × (Nat → Int32) × (Nat → Int32) × Int32 × (Nat → Int32) × (Nat → Int32) × Int32 × (Nat → Int32) × (Nat → Int32) × Int32 × Int32 × Int32 × Int32 × Int32 × Int32 × (Nat → Int32) × (Nat → Int32) × Int32 × (Nat → Int32) × (Nat → Int32) × Int32 × (Nat → Int32) × (Nat → Int32) × Int32 × (Nat → Int32) × (Nat → Int32))) :=
  sbd (f_X10_requireSlot a0) fun t1 =>
  (f_X10_at 2 su a0).bind fun t2 =>
  if t2 = 0 then
    some (.inl "java/lang/IllegalStateException")
  else
    (f_X3_remember sd mn th dc fc dw pc ln lt tc en fr oc op os nx dp v_sd v_mn v_th v_dc v_fc v_dw v_pc v_ln v_lt v_tc v_en v_fr v_oc v_op v_os).bind fun t3 =>
    if a0 < 0 then
      f_X10_restore_L72 su w_sd w_mn w_th w_dc w_fc w_dw w_pc w_ln w_lt w_tc w_en w_fr w_oc w_op w_os sd mn th dc fc dw pc ln lt tc en fr oc op os t3.1 t3.2.1 t3.2.2.1 t3.2.2.2.1 t3.2.2.2.2.1 t3.2.2.2.2.2.1 t3.2.2.2.2.2.2.1 t3.2.2.2.2.2.2.2.1 t3.2.2.2.2.2.2.2.2.1 t3.2.2.2.2.2.2.2.2.2.1 t3.2.2.2.2.2.2.2.2.2.2.1 t3.2.2.2.2.2.2.2.2.2.2.2.1 t3.2.2.2.2.2.2.2.2.2.2.2.2.1 t3.2.2.2.2.2.2.2.2.2.2.2.2.2.1 t3.2.2.2.2.2.2.2.2.2.2.2.2.2.2.1 t3.2.2.2.2.2.2.2.2.2.2.2.2.2.2.2.1 t3.2.2.2.2.2.2.2.2.2.2.2.2.2.2.2.2
    else
      if 2 ≤ a0 then
        f_X10_restore_L72 su w_sd w_mn w_th w_dc w_fc w_dw w_pc w_ln w_lt w_tc w_en w_fr w_oc w_op w_os sd mn th dc fc dw pc ln lt tc en fr oc op os t3.1 t3.2.1 t3.2.2.1 t3.2.2.2.1 t3.2.2.2.2.1 t3.2.2.2.2.2.1 t3.2.2.2.2.2.2.1 t3.2.2.2.2.2.2.2.1 t3.2.2.2.2.2.2.2.2.1 t3.2.2.2.2.2.2.2.2.2.1 t3.2.2.2.2.2.2.2.2.2.2.1 t3.2.2.2.2.2.2.2.2.2.2.2.1 t3.2.2.2.2.2.2.2.2.2.2.2.2.1 t3.2.2.2.2.2.2.2.2.2.2.2.2.2.1 t3.2.2.2.2.2.2.2.2.2.2.2.2.2.2.1 t3.2.2.2.2.2.2.2.2.2.2.2.2.2.2.2.1 t3.2.2.2.2.2.2.2.2.2.2.2.2.2.2.2.2
      else
        gd (inb a0 2) <|
        gd (inb a0 2) <|
        (f_X2_copyFrom w_sd w_mn w_th w_dc w_fc w_dw w_pc w_ln w_lt w_tc w_en w_fr w_oc w_op w_os sd mn th dc fc dw pc ln lt tc en fr oc op os).bind fun t4 =>
        f_X10_restore_L72 su w_sd w_mn w_th w_dc w_fc w_dw w_pc w_ln w_lt w_tc w_en w_fr w_oc w_op w_os t4.1 t4.2.1 t4.2.2.1 t4.2.2.2.1 t4.2.2.2.2.1 t4.2.2.2.2.2.1 t4.2.2.2.2.2.2.1 t4.2.2.2.2.2.2.2.1 t4.2.2.2.2.2.2.2.2.1 t4.2.2.2.2.2.2.2.2.2.1 t4.2.2.2.2.2.2.2.2.2.2.1 t4.2.2.2.2.2.2.2.2.2.2.2.1 t4.2.2.2.2.2.2.2.2.2.2.2.2.1 t4.2.2.2.2.2.2.2.2.2.2.2.2.2.1 t4.2.2.2.2.2.2.2.2.2.2.2.2.2.2 t3.1 t3.2.1 t3.2.2.1 t3.2.2.2.1 t3.2.2.2.2.1 t3.2.2.2.2.2.1 t3.2.2.2.2.2.2.1 t3.2.2.2.2.2.2.2.1 t3.2.2.2.2.2.2.2.2.1 t3.2.2.2.2.2.2.2.2.2.1 t3.2.2.2.2.2.2.2.2.2.2.1 t3.2.2.2.2.2.2.2.2.2.2.2.1 t3.2.2.2.2.2.2.2.2.2.2.2.2.1 t3.2.2.2.2.2.2.2.2.2.2.2.2.2.1 t3.2.2.2.2.2.2.2.2.2.2.2.2.2.2.1 t3.2.2.2.2.2.2.2.2.2.2.2.2.2.2.2.1 t3.2.2.2.2.2.2.2.2.2.2.2.2.2.2.2.2
set_option maxHeartbeats 4000000 in
set_option maxRecDepth 100000 in
theorem c_X10_restore {E : KE} {l : Launch} {hp : Hp} {al : Option Nat} {x : Nat} {v : Nat} {w : Nat} {sd : Int32} {mn : Int32} {th : Int32} {dc : Int32} {fc : Nat → Int32} {dw : Nat → Int32} {pc : Int32} {ln : Nat → Int32} {lt : Nat → Int32} {tc : Int32} {en : Nat → Int32} {fr : Nat → Int32} {oc : Int32} {op : Nat → Int32} {os : Nat → Int32} {nx : Int32} {dp : Int32} {rws : Nat → Option Nat} {srw : Nat → Option Nat} {su : Nat → Int32} {v_sd : Int32} {v_mn : Int32} {v_th : Int32} {v_dc : Int32} {v_fc : Nat → Int32} {v_dw : Nat → Int32} {v_pc : Int32} {v_ln : Nat → Int32} {v_lt : Nat → Int32} {v_tc : Int32} {v_en : Nat → Int32} {v_fr : Nat → Int32} {v_oc : Int32} {v_op : Nat → Int32} {v_os : Nat → Int32} {w_sd : Int32} {w_mn : Int32} {w_th : Int32} {w_dc : Int32} {w_fc : Nat → Int32} {w_dw : Nat → Int32} {w_pc : Int32} {w_ln : Nat → Int32} {w_lt : Nat → Int32} {w_tc : Int32} {w_en : Nat → Int32} {w_fr : Nat → Int32} {w_oc : Int32} {w_op : Nat → Int32} {w_os : Nat → Int32} {a0 : Int32} {out : String ⊕ (Int32 × Int32 × Int32 × Int32 × Int32 × (Nat → Int32) × (Nat → Int32) × Int32 × (Nat → Int32) × (Nat → Int32) × Int32 × (Nat → Int32) × (Nat → Int32) × Int32 × (Nat → Int32) × (Nat → Int32) × Int32 × Int32 × Int32 × Int32 × Int32 × Int32 × (Nat → Int32) × (Nat → Int32) × Int32 × (Nat → Int32) × (Nat → Int32) × Int32 × (Nat → Int32) × (Nat → Int32) × Int32 × (Nat → Int32) × (Nat → Int32))} (g0 : hp x = some (.inr (10, [.ref (x + 126), .ref (x + 128), .ref (x + 1), .ref (x + 3), .ref (x + 16), .ref (x + 18), .ref (x + 124), .ref (x + 125)]))) (g3 : hp (x + 3) = some (.inr (2, [.ref (x + 4), .ref (x + 7), .ref (x + 10), .ref (x + 13), .int sd, .int mn, .int th]))) (g4 : hp (x + 4) = some (.inr (0, [.ref (x + 5), .ref (x + 6), .int dc]))) (g5 : hp (x + 5) = some (.inl (kC E 0, 6, .inl fc))) (g6 : hp (x + 6) = some (.inl (kC E 0, 72, .inl dw))) (g7 : hp (x + 7) = some (.inr (7, [.ref (x + 8), .ref (x + 9), .int pc]))) (g8 : hp (x + 8) = some (.inl (kC E 0, 6, .inl ln))) (g9 : hp (x + 9) = some (.inl (kC E 0, 24, .inl lt))) (g10 : hp (x + 10) = some (.inr (4, [.ref (x + 11), .ref (x + 12), .int tc]))) (g11 : hp (x + 11) = some (.inl (kC E 0, 300, .inl en))) (g12 : hp (x + 12) = some (.inl (kC E 0, 432, .inl fr))) (g13 : hp (x + 13) = some (.inr (6, [.ref (x + 14), .ref (x + 15), .int oc]))) (g14 : hp (x + 14) = some (.inl (kC E 0, 36, .inl op))) (g15 : hp (x + 15) = some (.inl (kC E 0, 36, .inl os))) (g18 : hp (x + 18) = some (.inr (3, [.ref (x + 19), .int nx, .int dp]))) (g19 : hp (x + 19) = some (.inl (kC E 5, 8, .inr (.inr (.inr (.inr rws)))))) (g20 : hp (x + 124) = some (.inl (kC E 5, 2, .inr (.inr (.inr (.inr srw)))))) (g21 : hp (x + 125) = some (.inl (kC E 0, 2, .inl su))) (g39 : hp v = some (.inr (2, [.ref (v + 1), .ref (v + 4), .ref (v + 7), .ref (v + 10), .int v_sd, .int v_mn, .int v_th]))) (g40 : hp (v + 1) = some (.inr (0, [.ref (v + 2), .ref (v + 3), .int v_dc]))) (g41 : hp (v + 2) = some (.inl (kC E 0, 6, .inl v_fc))) (g42 : hp (v + 3) = some (.inl (kC E 0, 72, .inl v_dw))) (g43 : hp (v + 4) = some (.inr (7, [.ref (v + 5), .ref (v + 6), .int v_pc]))) (g44 : hp (v + 5) = some (.inl (kC E 0, 6, .inl v_ln))) (g45 : hp (v + 6) = some (.inl (kC E 0, 24, .inl v_lt))) (g46 : hp (v + 7) = some (.inr (4, [.ref (v + 8), .ref (v + 9), .int v_tc]))) (g47 : hp (v + 8) = some (.inl (kC E 0, 300, .inl v_en))) (g48 : hp (v + 9) = some (.inl (kC E 0, 432, .inl v_fr))) (g49 : hp (v + 10) = some (.inr (6, [.ref (v + 11), .ref (v + 12), .int v_oc]))) (g50 : hp (v + 11) = some (.inl (kC E 0, 36, .inl v_op))) (g51 : hp (v + 12) = some (.inl (kC E 0, 36, .inl v_os))) (g52 : hp w = some (.inr (2, [.ref (w + 1), .ref (w + 4), .ref (w + 7), .ref (w + 10), .int w_sd, .int w_mn, .int w_th]))) (g53 : hp (w + 1) = some (.inr (0, [.ref (w + 2), .ref (w + 3), .int w_dc]))) (g54 : hp (w + 2) = some (.inl (kC E 0, 6, .inl w_fc))) (g55 : hp (w + 3) = some (.inl (kC E 0, 72, .inl w_dw))) (g56 : hp (w + 4) = some (.inr (7, [.ref (w + 5), .ref (w + 6), .int w_pc]))) (g57 : hp (w + 5) = some (.inl (kC E 0, 6, .inl w_ln))) (g58 : hp (w + 6) = some (.inl (kC E 0, 24, .inl w_lt))) (g59 : hp (w + 7) = some (.inr (4, [.ref (w + 8), .ref (w + 9), .int w_tc]))) (g60 : hp (w + 8) = some (.inl (kC E 0, 300, .inl w_en))) (g61 : hp (w + 9) = some (.inl (kC E 0, 432, .inl w_fr))) (g62 : hp (w + 10) = some (.inr (6, [.ref (w + 11), .ref (w + 12), .int w_oc]))) (g63 : hp (w + 11) = some (.inl (kC E 0, 36, .inl w_op))) (g64 : hp (w + 12) = some (.inl (kC E 0, 36, .inl w_os))) (hvv : rws (Int32.toNatClampNeg nx) = some v) (hlv : (x + 20) ≤ v) (huv : (v + 13) ≤ (x + 124)) (hvw : srw (Int32.toNatClampNeg a0) = some w) (hlw : (x + 143) ≤ w) (huw : (w + 13) ≤ (x + 169)) (h : f_X10_restore su w_sd w_mn w_th w_dc w_fc w_dw w_pc w_ln w_lt w_tc w_en w_fr w_oc w_op w_os sd mn th dc fc dw pc ln lt tc en fr oc op os nx dp v_sd v_mn v_th v_dc v_fc v_dw v_pc v_ln v_lt v_tc v_en v_fr v_oc v_op v_os a0 = some out) : AX E l yX10_restore cX10_restore 2 (Option.some Jvm.ClassFile.FieldType.int) ⟨8, 2, 12, 123⟩ [.ref x, .int a0] hp al (P_X10_restore E x v w hp al out) (kThr out hp) := by
  refine A_ofX (by decide +kernel) (Nat.le_of_ble_eq_true rfl) ?_
  intro p e s m args below meth c X hr htb
  have X : CX E p l s m args meth c "DiceAudit" cX10_restore 2 := X
  refine A_L (L' := [(0, .ref x), (1, .int a0)]) rfl ?_
  unfold f_X10_restore at h
  refine A_iload_n X dX10_restore_0 1 rfl ?_
  rcases sbd_o h with ⟨c9, hc9, rfl⟩ | ⟨t1, hct1, h⟩
  · exact A_cX (k' := 1) (n' := 6) rfl rfl (A_runSX (rest := []) X dX10_restore_1 (c_X10_requireSlot   hc9) kY_X10_requireSlot kw_1380 ⟨(Nat.le_of_ble_eq_true rfl), (Nat.le_of_ble_eq_true rfl), (Nat.le_of_ble_eq_true rfl), (Nat.le_of_ble_eq_true rfl)⟩ rfl (Nat.le_of_ble_eq_true rfl)) (fun C hp1 hP => by obtain ⟨hC, rfl⟩ := hP; cases hC; exact A_out X htb ⟨rfl, rfl⟩ (Nat.le_of_ble_eq_true rfl) (Nat.le_of_ble_eq_true rfl)) (fun v hp1 al1 hP => by obtain ⟨u, hu, _⟩ := hP; cases hu)
  refine A_cX (k' := 1) (n' := 6) rfl rfl (A_runSX (rest := []) X dX10_restore_1 (c_X10_requireSlot   hct1) kY_X10_requireSlot kw_1380 ⟨(Nat.le_of_ble_eq_true rfl), (Nat.le_of_ble_eq_true rfl), (Nat.le_of_ble_eq_true rfl), (Nat.le_of_ble_eq_true rfl)⟩ rfl (Nat.le_of_ble_eq_true rfl)) (fun C hp1 hP => by obtain ⟨hC, _⟩ := hP; cases hC) (fun v9 hp1 al9 hP => ?_)
  obtain ⟨u9, hu9, rfl, rfl, rfl⟩ := hP
  cases hu9
  refine A_st (st' := []) rfl ?_
  refine A_aload_n X dX10_restore_4 0 rfl ?_
  refine A_get X dX10_restore_5 kcl_X10 7 (by decide) kw_658 g0 rfl ?_
  refine A_iload_n X dX10_restore_8 1 rfl ?_
  obtain ⟨t2, hct2, h⟩ := bind_o h
  refine A_cp (k' := 1) (n' := 6) (A_runS (rest := []) X dX10_restore_9 (c_X10_at g21  hct2) kY_X10_at kw_536 ⟨(Nat.le_of_ble_eq_true rfl), (Nat.le_of_ble_eq_true rfl), (Nat.le_of_ble_eq_true rfl), (Nat.le_of_ble_eq_true rfl)⟩ rfl (Nat.le_of_ble_eq_true rfl)) rfl rfl ?_
  refine A_if_ne (tgt := 26) X dX10_restore_12 h (by decide) (fun hc h => ?_) (fun hc h => ?_)
  · refine A_aload_n X dX10_restore_26 0 rfl ?_
    refine A_get X dX10_restore_27 kcl_X10 5 (by decide) kw_656 g0 rfl ?_
    refine A_aload_n X dX10_restore_30 0 rfl ?_
    refine A_get X dX10_restore_31 kcl_X10 3 (by decide) kw_654 g0 rfl ?_
    obtain ⟨t3, hct3, h⟩ := bind_o h
    refine A_c (k' := 1) (n' := 6) rfl rfl (A_runV (rest := []) X dX10_restore_34 (c_X3_remember g18 g19 g3 g4 g5 g6 g7 g8 g9 g10 g11 g12 g13 g14 g15 g39 g40 g41 g42 g43 g44 g45 g46 g47 g48 g49 g50 g51 hvv (by omega) (by omega) (by omega) (by omega) hct3) kY_X3_remember kw_778 g18 rfl rfl ⟨(Nat.le_of_ble_eq_true rfl), (Nat.le_of_ble_eq_true rfl), (Nat.le_of_ble_eq_true rfl), (Nat.le_of_ble_eq_true rfl)⟩ rfl (Nat.le_of_ble_eq_true rfl)) (fun v9 hp1 al9 hP => ?_)
    obtain ⟨rfl, k1_0, k1_1, k1_2, k1_3, k1_4, k1_5, k1_6, k1_7, k1_8, k1_9, k1_10, k1_11, k1_12, k1_13, n1, rfl⟩ := hP
    replace k1_0 : hp1 (x + 18) = some (.inr (3, [.ref (x + 19), .int t3.1, .int t3.2.1])) := k1_0
    replace k1_1 : hp1 v = some (.inr (2, [.ref (v + 1), .ref (v + 4), .ref (v + 7), .ref (v + 10), .int t3.2.2.1, .int t3.2.2.2.1, .int t3.2.2.2.2.1])) := k1_1
    replace k1_2 : hp1 (v + 1) = some (.inr (0, [.ref (v + 2), .ref (v + 3), .int t3.2.2.2.2.2.1])) := k1_2
    replace k1_3 : hp1 (v + 2) = some (.inl (kC E 0, 6, .inl t3.2.2.2.2.2.2.1)) := k1_3
    replace k1_4 : hp1 (v + 3) = some (.inl (kC E 0, 72, .inl t3.2.2.2.2.2.2.2.1)) := k1_4
    replace k1_5 : hp1 (v + 4) = some (.inr (7, [.ref (v + 5), .ref (v + 6), .int t3.2.2.2.2.2.2.2.2.1])) := k1_5
    replace k1_6 : hp1 (v + 5) = some (.inl (kC E 0, 6, .inl t3.2.2.2.2.2.2.2.2.2.1)) := k1_6
    replace k1_7 : hp1 (v + 6) = some (.inl (kC E 0, 24, .inl t3.2.2.2.2.2.2.2.2.2.2.1)) := k1_7
    replace k1_8 : hp1 (v + 7) = some (.inr (4, [.ref (v + 8), .ref (v + 9), .int t3.2.2.2.2.2.2.2.2.2.2.2.1])) := k1_8
    replace k1_9 : hp1 (v + 8) = some (.inl (kC E 0, 300, .inl t3.2.2.2.2.2.2.2.2.2.2.2.2.1)) := k1_9
    replace k1_10 : hp1 (v + 9) = some (.inl (kC E 0, 432, .inl t3.2.2.2.2.2.2.2.2.2.2.2.2.2.1)) := k1_10
    replace k1_11 : hp1 (v + 10) = some (.inr (6, [.ref (v + 11), .ref (v + 12), .int t3.2.2.2.2.2.2.2.2.2.2.2.2.2.2.1])) := k1_11
    replace k1_12 : hp1 (v + 11) = some (.inl (kC E 0, 36, .inl t3.2.2.2.2.2.2.2.2.2.2.2.2.2.2.2.1)) := k1_12
    replace k1_13 : hp1 (v + 12) = some (.inl (kC E 0, 36, .inl t3.2.2.2.2.2.2.2.2.2.2.2.2.2.2.2.2)) := k1_13
    refine A_st (st' := []) rfl ?_
    refine A_iload_n X dX10_restore_37 1 rfl ?_
    refine A_if_lt (tgt := 72) X dX10_restore_38 h (by decide) (fun hc h => ?_) (fun hc h => ?_)
    · refine A_sub (L' := [(0, .ref x)]) [0] rfl ?_
      exact c_X10_restore_L72 X hr htb hlv huv hlw huw ((n1 _ (by omega) (by omega) (by omega) (by omega) (by omega) (by omega) (by omega) (by omega) (by omega) (by omega) (by omega) (by omega) (by omega) (by omega)).trans g0) ((n1 _ (by omega) (by omega) (by omega) (by omega) (by omega) (by omega) (by omega) (by omega) (by omega) (by omega) (by omega) (by omega) (by omega) (by omega)).trans g3) ((n1 _ (by omega) (by omega) (by omega) (by omega) (by omega) (by omega) (by omega) (by omega) (by omega) (by omega) (by omega) (by omega) (by omega) (by omega)).trans g4) ((n1 _ (by omega) (by omega) (by omega) (by omega) (by omega) (by omega) (by omega) (by omega) (by omega) (by omega) (by omega) (by omega) (by omega) (by omega)).trans g5) ((n1 _ (by omega) (by omega) (by omega) (by omega) (by omega) (by omega) (by omega) (by omega) (by omega) (by omega) (by omega) (by omega) (by omega) (by omega)).trans g6) ((n1 _ (by omega) (by omega) (by omega) (by omega) (by omega) (by omega) (by omega) (by omega) (by omega) (by omega) (by omega) (by omega) (by omega) (by omega)).trans g7) ((n1 _ (by omega) (by omega) (by omega) (by omega) (by omega) (by omega) (by omega) (by omega) (by omega) (by omega) (by omega) (by omega) (by omega) (by omega)).trans g8) ((n1 _ (by omega) (by omega) (by omega) (by omega) (by omega) (by omega) (by omega) (by omega) (by omega) (by omega) (by omega) (by omega) (by omega) (by omega)).trans g9) ((n1 _ (by omega) (by omega) (by omega) (by omega) (by omega) (by omega) (by omega) (by omega) (by omega) (by omega) (by omega) (by omega) (by omega) (by omega)).trans g10) ((n1 _ (by omega) (by omega) (by omega) (by omega) (by omega) (by omega) (by omega) (by omega) (by omega) (by omega) (by omega) (by omega) (by omega) (by omega)).trans g11) ((n1 _ (by omega) (by omega) (by omega) (by omega) (by omega) (by omega) (by omega) (by omega) (by omega) (by omega) (by omega) (by omega) (by omega) (by omega)).trans g12) ((n1 _ (by omega) (by omega) (by omega) (by omega) (by omega) (by omega) (by omega) (by omega) (by omega) (by omega) (by omega) (by omega) (by omega) (by omega)).trans g13) ((n1 _ (by omega) (by omega) (by omega) (by omega) (by omega) (by omega) (by omega) (by omega) (by omega) (by omega) (by omega) (by omega) (by omega) (by omega)).trans g14) ((n1 _ (by omega) (by omega) (by omega) (by omega) (by omega) (by omega) (by omega) (by omega) (by omega) (by omega) (by omega) (by omega) (by omega) (by omega)).trans g15) k1_0 ((n1 _ (by omega) (by omega) (by omega) (by omega) (by omega) (by omega) (by omega) (by omega) (by omega) (by omega) (by omega) (by omega) (by omega) (by omega)).trans g19) ((n1 _ (by omega) (by omega) (by omega) (by omega) (by omega) (by omega) (by omega) (by omega) (by omega) (by omega) (by omega) (by omega) (by omega) (by omega)).trans g20) ((n1 _ (by omega) (by omega) (by omega) (by omega) (by omega) (by omega) (by omega) (by omega) (by omega) (by omega) (by omega) (by omega) (by omega) (by omega)).trans g21) k1_1 k1_2 k1_3 k1_4 k1_5 k1_6 k1_7 k1_8 k1_9 k1_10 k1_11 k1_12 k1_13 ((n1 _ (by omega) (by omega) (by omega) (by omega) (by omega) (by omega) (by omega) (by omega) (by omega) (by omega) (by omega) (by omega) (by omega) (by omega)).trans g52) ((n1 _ (by omega) (by omega) (by omega) (by omega) (by omega) (by omega) (by omega) (by omega) (by omega) (by omega) (by omega) (by omega) (by omega) (by omega)).trans g53) ((n1 _ (by omega) (by omega) (by omega) (by omega) (by omega) (by omega) (by omega) (by omega) (by omega) (by omega) (by omega) (by omega) (by omega) (by omega)).trans g54) ((n1 _ (by omega) (by omega) (by omega) (by omega) (by omega) (by omega) (by omega) (by omega) (by omega) (by omega) (by omega) (by omega) (by omega) (by omega)).trans g55) ((n1 _ (by omega) (by omega) (by omega) (by omega) (by omega) (by omega) (by omega) (by omega) (by omega) (by omega) (by omega) (by omega) (by omega) (by omega)).trans g56) ((n1 _ (by omega) (by omega) (by omega) (by omega) (by omega) (by omega) (by omega) (by omega) (by omega) (by omega) (by omega) (by omega) (by omega) (by omega)).trans g57) ((n1 _ (by omega) (by omega) (by omega) (by omega) (by omega) (by omega) (by omega) (by omega) (by omega) (by omega) (by omega) (by omega) (by omega) (by omega)).trans g58) ((n1 _ (by omega) (by omega) (by omega) (by omega) (by omega) (by omega) (by omega) (by omega) (by omega) (by omega) (by omega) (by omega) (by omega) (by omega)).trans g59) ((n1 _ (by omega) (by omega) (by omega) (by omega) (by omega) (by omega) (by omega) (by omega) (by omega) (by omega) (by omega) (by omega) (by omega) (by omega)).trans g60) ((n1 _ (by omega) (by omega) (by omega) (by omega) (by omega) (by omega) (by omega) (by omega) (by omega) (by omega) (by omega) (by omega) (by omega) (by omega)).trans g61) ((n1 _ (by omega) (by omega) (by omega) (by omega) (by omega) (by omega) (by omega) (by omega) (by omega) (by omega) (by omega) (by omega) (by omega) (by omega)).trans g62) ((n1 _ (by omega) (by omega) (by omega) (by omega) (by omega) (by omega) (by omega) (by omega) (by omega) (by omega) (by omega) (by omega) (by omega) (by omega)).trans g63) ((n1 _ (by omega) (by omega) (by omega) (by omega) (by omega) (by omega) (by omega) (by omega) (by omega) (by omega) (by omega) (by omega) (by omega) (by omega)).trans g64) (fun q z0 z1 z2 z3 z4 z5 z6 z7 z8 z9 z10 z11 z12 z13 z14 z15 z16 z17 z18 z19 z20 z21 z22 z23 z24 z25 z26 => (n1 q z13 z14 z15 z16 z17 z18 z19 z20 z21 z22 z23 z24 z25 z26)) h
    · refine A_iload_n X dX10_restore_41 1 rfl ?_
      refine A_aload_n X dX10_restore_42 0 rfl ?_
      refine A_get X dX10_restore_43 kcl_X10 6 (by decide) kw_657 ((n1 _ (by omega) (by omega) (by omega) (by omega) (by omega) (by omega) (by omega) (by omega) (by omega) (by omega) (by omega) (by omega) (by omega) (by omega)).trans g0) rfl ?_
      refine A_alen (t := 5) (v := 2) X dX10_restore_46 ((n1 _ (by omega) (by omega) (by omega) (by omega) (by omega) (by omega) (by omega) (by omega) (by omega) (by omega) (by omega) (by omega) (by omega) (by omega)).trans g20) rfl (by decide) ?_
      refine A_icmp_ge (tgt := 72) X dX10_restore_47 h (by decide) (fun hc h => ?_) (fun hc h => ?_)
      · refine A_sub (L' := [(0, .ref x)]) [0] rfl ?_
        exact c_X10_restore_L72 X hr htb hlv huv hlw huw ((n1 _ (by omega) (by omega) (by omega) (by omega) (by omega) (by omega) (by omega) (by omega) (by omega) (by omega) (by omega) (by omega) (by omega) (by omega)).trans g0) ((n1 _ (by omega) (by omega) (by omega) (by omega) (by omega) (by omega) (by omega) (by omega) (by omega) (by omega) (by omega) (by omega) (by omega) (by omega)).trans g3) ((n1 _ (by omega) (by omega) (by omega) (by omega) (by omega) (by omega) (by omega) (by omega) (by omega) (by omega) (by omega) (by omega) (by omega) (by omega)).trans g4) ((n1 _ (by omega) (by omega) (by omega) (by omega) (by omega) (by omega) (by omega) (by omega) (by omega) (by omega) (by omega) (by omega) (by omega) (by omega)).trans g5) ((n1 _ (by omega) (by omega) (by omega) (by omega) (by omega) (by omega) (by omega) (by omega) (by omega) (by omega) (by omega) (by omega) (by omega) (by omega)).trans g6) ((n1 _ (by omega) (by omega) (by omega) (by omega) (by omega) (by omega) (by omega) (by omega) (by omega) (by omega) (by omega) (by omega) (by omega) (by omega)).trans g7) ((n1 _ (by omega) (by omega) (by omega) (by omega) (by omega) (by omega) (by omega) (by omega) (by omega) (by omega) (by omega) (by omega) (by omega) (by omega)).trans g8) ((n1 _ (by omega) (by omega) (by omega) (by omega) (by omega) (by omega) (by omega) (by omega) (by omega) (by omega) (by omega) (by omega) (by omega) (by omega)).trans g9) ((n1 _ (by omega) (by omega) (by omega) (by omega) (by omega) (by omega) (by omega) (by omega) (by omega) (by omega) (by omega) (by omega) (by omega) (by omega)).trans g10) ((n1 _ (by omega) (by omega) (by omega) (by omega) (by omega) (by omega) (by omega) (by omega) (by omega) (by omega) (by omega) (by omega) (by omega) (by omega)).trans g11) ((n1 _ (by omega) (by omega) (by omega) (by omega) (by omega) (by omega) (by omega) (by omega) (by omega) (by omega) (by omega) (by omega) (by omega) (by omega)).trans g12) ((n1 _ (by omega) (by omega) (by omega) (by omega) (by omega) (by omega) (by omega) (by omega) (by omega) (by omega) (by omega) (by omega) (by omega) (by omega)).trans g13) ((n1 _ (by omega) (by omega) (by omega) (by omega) (by omega) (by omega) (by omega) (by omega) (by omega) (by omega) (by omega) (by omega) (by omega) (by omega)).trans g14) ((n1 _ (by omega) (by omega) (by omega) (by omega) (by omega) (by omega) (by omega) (by omega) (by omega) (by omega) (by omega) (by omega) (by omega) (by omega)).trans g15) k1_0 ((n1 _ (by omega) (by omega) (by omega) (by omega) (by omega) (by omega) (by omega) (by omega) (by omega) (by omega) (by omega) (by omega) (by omega) (by omega)).trans g19) ((n1 _ (by omega) (by omega) (by omega) (by omega) (by omega) (by omega) (by omega) (by omega) (by omega) (by omega) (by omega) (by omega) (by omega) (by omega)).trans g20) ((n1 _ (by omega) (by omega) (by omega) (by omega) (by omega) (by omega) (by omega) (by omega) (by omega) (by omega) (by omega) (by omega) (by omega) (by omega)).trans g21) k1_1 k1_2 k1_3 k1_4 k1_5 k1_6 k1_7 k1_8 k1_9 k1_10 k1_11 k1_12 k1_13 ((n1 _ (by omega) (by omega) (by omega) (by omega) (by omega) (by omega) (by omega) (by omega) (by omega) (by omega) (by omega) (by omega) (by omega) (by omega)).trans g52) ((n1 _ (by omega) (by omega) (by omega) (by omega) (by omega) (by omega) (by omega) (by omega) (by omega) (by omega) (by omega) (by omega) (by omega) (by omega)).trans g53) ((n1 _ (by omega) (by omega) (by omega) (by omega) (by omega) (by omega) (by omega) (by omega) (by omega) (by omega) (by omega) (by omega) (by omega) (by omega)).trans g54) ((n1 _ (by omega) (by omega) (by omega) (by omega) (by omega) (by omega) (by omega) (by omega) (by omega) (by omega) (by omega) (by omega) (by omega) (by omega)).trans g55) ((n1 _ (by omega) (by omega) (by omega) (by omega) (by omega) (by omega) (by omega) (by omega) (by omega) (by omega) (by omega) (by omega) (by omega) (by omega)).trans g56) ((n1 _ (by omega) (by omega) (by omega) (by omega) (by omega) (by omega) (by omega) (by omega) (by omega) (by omega) (by omega) (by omega) (by omega) (by omega)).trans g57) ((n1 _ (by omega) (by omega) (by omega) (by omega) (by omega) (by omega) (by omega) (by omega) (by omega) (by omega) (by omega) (by omega) (by omega) (by omega)).trans g58) ((n1 _ (by omega) (by omega) (by omega) (by omega) (by omega) (by omega) (by omega) (by omega) (by omega) (by omega) (by omega) (by omega) (by omega) (by omega)).trans g59) ((n1 _ (by omega) (by omega) (by omega) (by omega) (by omega) (by omega) (by omega) (by omega) (by omega) (by omega) (by omega) (by omega) (by omega) (by omega)).trans g60) ((n1 _ (by omega) (by omega) (by omega) (by omega) (by omega) (by omega) (by omega) (by omega) (by omega) (by omega) (by omega) (by omega) (by omega) (by omega)).trans g61) ((n1 _ (by omega) (by omega) (by omega) (by omega) (by omega) (by omega) (by omega) (by omega) (by omega) (by omega) (by omega) (by omega) (by omega) (by omega)).trans g62) ((n1 _ (by omega) (by omega) (by omega) (by omega) (by omega) (by omega) (by omega) (by omega) (by omega) (by omega) (by omega) (by omega) (by omega) (by omega)).trans g63) ((n1 _ (by omega) (by omega) (by omega) (by omega) (by omega) (by omega) (by omega) (by omega) (by omega) (by omega) (by omega) (by omega) (by omega) (by omega)).trans g64) (fun q z0 z1 z2 z3 z4 z5 z6 z7 z8 z9 z10 z11 z12 z13 z14 z15 z16 z17 z18 z19 z20 z21 z22 z23 z24 z25 z26 => (n1 q z13 z14 z15 z16 z17 z18 z19 z20 z21 z22 z23 z24 z25 z26)) h
      · refine A_aload_n X dX10_restore_50 0 rfl ?_
        refine A_get X dX10_restore_51 kcl_X10 6 (by decide) kw_657 ((n1 _ (by omega) (by omega) (by omega) (by omega) (by omega) (by omega) (by omega) (by omega) (by omega) (by omega) (by omega) (by omega) (by omega) (by omega)).trans g0) rfl ?_
        refine A_iload_n X dX10_restore_54 1 rfl ?_
        obtain ⟨hq, h⟩ := gd_o h
        refine A_aald X dX10_restore_55 ((n1 _ (by omega) (by omega) (by omega) (by omega) (by omega) (by omega) (by omega) (by omega) (by omega) (by omega) (by omega) (by omega) (by omega) (by omega)).trans g20) hq ?_
        refine A_st (st' := [.ref w]) (by rw [hvw]; rfl) ?_
        refine A_ifnull X dX10_restore_56 ?_
        refine A_aload_n X dX10_restore_59 0 rfl ?_
        refine A_get X dX10_restore_60 kcl_X10 3 (by decide) kw_654 ((n1 _ (by omega) (by omega) (by omega) (by omega) (by omega) (by omega) (by omega) (by omega) (by omega) (by omega) (by omega) (by omega) (by omega) (by omega)).trans g0) rfl ?_
        refine A_aload_n X dX10_restore_63 0 rfl ?_
        refine A_get X dX10_restore_64 kcl_X10 6 (by decide) kw_657 ((n1 _ (by omega) (by omega) (by omega) (by omega) (by omega) (by omega) (by omega) (by omega) (by omega) (by omega) (by omega) (by omega) (by omega) (by omega)).trans g0) rfl ?_
        refine A_iload_n X dX10_restore_67 1 rfl ?_
        obtain ⟨hq, h⟩ := gd_o h
        refine A_aald X dX10_restore_68 ((n1 _ (by omega) (by omega) (by omega) (by omega) (by omega) (by omega) (by omega) (by omega) (by omega) (by omega) (by omega) (by omega) (by omega) (by omega)).trans g20) hq ?_
        refine A_st (st' := [.ref w, .ref (x + 3)]) (by rw [hvw]; rfl) ?_
        obtain ⟨t4, hct4, h⟩ := bind_o h
        refine A_c (k' := 1) (n' := 6) rfl rfl (A_runV (rest := []) X dX10_restore_69 (c_X2_copyFrom ((n1 _ (by omega) (by omega) (by omega) (by omega) (by omega) (by omega) (by omega) (by omega) (by omega) (by omega) (by omega) (by omega) (by omega) (by omega)).trans g3) ((n1 _ (by omega) (by omega) (by omega) (by omega) (by omega) (by omega) (by omega) (by omega) (by omega) (by omega) (by omega) (by omega) (by omega) (by omega)).trans g4) ((n1 _ (by omega) (by omega) (by omega) (by omega) (by omega) (by omega) (by omega) (by omega) (by omega) (by omega) (by omega) (by omega) (by omega) (by omega)).trans g5) ((n1 _ (by omega) (by omega) (by omega) (by omega) (by omega) (by omega) (by omega) (by omega) (by omega) (by omega) (by omega) (by omega) (by omega) (by omega)).trans g6) ((n1 _ (by omega) (by omega) (by omega) (by omega) (by omega) (by omega) (by omega) (by omega) (by omega) (by omega) (by omega) (by omega) (by omega) (by omega)).trans g7) ((n1 _ (by omega) (by omega) (by omega) (by omega) (by omega) (by omega) (by omega) (by omega) (by omega) (by omega) (by omega) (by omega) (by omega) (by omega)).trans g8) ((n1 _ (by omega) (by omega) (by omega) (by omega) (by omega) (by omega) (by omega) (by omega) (by omega) (by omega) (by omega) (by omega) (by omega) (by omega)).trans g9) ((n1 _ (by omega) (by omega) (by omega) (by omega) (by omega) (by omega) (by omega) (by omega) (by omega) (by omega) (by omega) (by omega) (by omega) (by omega)).trans g10) ((n1 _ (by omega) (by omega) (by omega) (by omega) (by omega) (by omega) (by omega) (by omega) (by omega) (by omega) (by omega) (by omega) (by omega) (by omega)).trans g11) ((n1 _ (by omega) (by omega) (by omega) (by omega) (by omega) (by omega) (by omega) (by omega) (by omega) (by omega) (by omega) (by omega) (by omega) (by omega)).trans g12) ((n1 _ (by omega) (by omega) (by omega) (by omega) (by omega) (by omega) (by omega) (by omega) (by omega) (by omega) (by omega) (by omega) (by omega) (by omega)).trans g13) ((n1 _ (by omega) (by omega) (by omega) (by omega) (by omega) (by omega) (by omega) (by omega) (by omega) (by omega) (by omega) (by omega) (by omega) (by omega)).trans g14) ((n1 _ (by omega) (by omega) (by omega) (by omega) (by omega) (by omega) (by omega) (by omega) (by omega) (by omega) (by omega) (by omega) (by omega) (by omega)).trans g15) ((n1 _ (by omega) (by omega) (by omega) (by omega) (by omega) (by omega) (by omega) (by omega) (by omega) (by omega) (by omega) (by omega) (by omega) (by omega)).trans g52) ((n1 _ (by omega) (by omega) (by omega) (by omega) (by omega) (by omega) (by omega) (by omega) (by omega) (by omega) (by omega) (by omega) (by omega) (by omega)).trans g53) ((n1 _ (by omega) (by omega) (by omega) (by omega) (by omega) (by omega) (by omega) (by omega) (by omega) (by omega) (by omega) (by omega) (by omega) (by omega)).trans g54) ((n1 _ (by omega) (by omega) (by omega) (by omega) (by omega) (by omega) (by omega) (by omega) (by omega) (by omega) (by omega) (by omega) (by omega) (by omega)).trans g55) ((n1 _ (by omega) (by omega) (by omega) (by omega) (by omega) (by omega) (by omega) (by omega) (by omega) (by omega) (by omega) (by omega) (by omega) (by omega)).trans g56) ((n1 _ (by omega) (by omega) (by omega) (by omega) (by omega) (by omega) (by omega) (by omega) (by omega) (by omega) (by omega) (by omega) (by omega) (by omega)).trans g57) ((n1 _ (by omega) (by omega) (by omega) (by omega) (by omega) (by omega) (by omega) (by omega) (by omega) (by omega) (by omega) (by omega) (by omega) (by omega)).trans g58) ((n1 _ (by omega) (by omega) (by omega) (by omega) (by omega) (by omega) (by omega) (by omega) (by omega) (by omega) (by omega) (by omega) (by omega) (by omega)).trans g59) ((n1 _ (by omega) (by omega) (by omega) (by omega) (by omega) (by omega) (by omega) (by omega) (by omega) (by omega) (by omega) (by omega) (by omega) (by omega)).trans g60) ((n1 _ (by omega) (by omega) (by omega) (by omega) (by omega) (by omega) (by omega) (by omega) (by omega) (by omega) (by omega) (by omega) (by omega) (by omega)).trans g61) ((n1 _ (by omega) (by omega) (by omega) (by omega) (by omega) (by omega) (by omega) (by omega) (by omega) (by omega) (by omega) (by omega) (by omega) (by omega)).trans g62) ((n1 _ (by omega) (by omega) (by omega) (by omega) (by omega) (by omega) (by omega) (by omega) (by omega) (by omega) (by omega) (by omega) (by omega) (by omega)).trans g63) ((n1 _ (by omega) (by omega) (by omega) (by omega) (by omega) (by omega) (by omega) (by omega) (by omega) (by omega) (by omega) (by omega) (by omega) (by omega)).trans g64) (by omega) hct4) kY_X2_copyFrom kw_622 ((n1 _ (by omega) (by omega) (by omega) (by omega) (by omega) (by omega) (by omega) (by omega) (by omega) (by omega) (by omega) (by omega) (by omega) (by omega)).trans g3) rfl rfl ⟨(Nat.le_of_ble_eq_true rfl), (Nat.le_of_ble_eq_true rfl), (Nat.le_of_ble_eq_true rfl), (Nat.le_of_ble_eq_true rfl)⟩ rfl (Nat.le_of_ble_eq_true rfl)) (fun v9 hp2 al9 hP => ?_)
        obtain ⟨rfl, k2_0, k2_1, k2_2, k2_3, k2_4, k2_5, k2_6, k2_7, k2_8, k2_9, k2_10, k2_11, k2_12, n2, rfl⟩ := hP
        replace k2_0 : hp2 (x + 3) = some (.inr (2, [.ref (x + 4), .ref (x + 7), .ref (x + 10), .ref (x + 13), .int t4.1, .int t4.2.1, .int t4.2.2.1])) := k2_0
        replace k2_1 : hp2 (x + 4) = some (.inr (0, [.ref (x + 5), .ref (x + 6), .int t4.2.2.2.1])) := k2_1
        replace k2_2 : hp2 (x + 5) = some (.inl (kC E 0, 6, .inl t4.2.2.2.2.1)) := k2_2
        replace k2_3 : hp2 (x + 6) = some (.inl (kC E 0, 72, .inl t4.2.2.2.2.2.1)) := k2_3
        replace k2_4 : hp2 (x + 7) = some (.inr (7, [.ref (x + 8), .ref (x + 9), .int t4.2.2.2.2.2.2.1])) := k2_4
        replace k2_5 : hp2 (x + 8) = some (.inl (kC E 0, 6, .inl t4.2.2.2.2.2.2.2.1)) := k2_5
        replace k2_6 : hp2 (x + 9) = some (.inl (kC E 0, 24, .inl t4.2.2.2.2.2.2.2.2.1)) := k2_6
        replace k2_7 : hp2 (x + 10) = some (.inr (4, [.ref (x + 11), .ref (x + 12), .int t4.2.2.2.2.2.2.2.2.2.1])) := k2_7
        replace k2_8 : hp2 (x + 11) = some (.inl (kC E 0, 300, .inl t4.2.2.2.2.2.2.2.2.2.2.1)) := k2_8
        replace k2_9 : hp2 (x + 12) = some (.inl (kC E 0, 432, .inl t4.2.2.2.2.2.2.2.2.2.2.2.1)) := k2_9
        replace k2_10 : hp2 (x + 13) = some (.inr (6, [.ref (x + 14), .ref (x + 15), .int t4.2.2.2.2.2.2.2.2.2.2.2.2.1])) := k2_10
        replace k2_11 : hp2 (x + 14) = some (.inl (kC E 0, 36, .inl t4.2.2.2.2.2.2.2.2.2.2.2.2.2.1)) := k2_11
        replace k2_12 : hp2 (x + 15) = some (.inl (kC E 0, 36, .inl t4.2.2.2.2.2.2.2.2.2.2.2.2.2.2)) := k2_12
        refine A_st (st' := []) rfl ?_
        refine A_sub (L' := [(0, .ref x)]) [0] rfl ?_
        exact c_X10_restore_L72 X hr htb hlv huv hlw huw ((n2 _ (by omega) (by omega) (by omega) (by omega) (by omega) (by omega) (by omega) (by omega) (by omega) (by omega) (by omega) (by omega) (by omega)).trans ((n1 _ (by omega) (by omega) (by omega) (by omega) (by omega) (by omega) (by omega) (by omega) (by omega) (by omega) (by omega) (by omega) (by omega) (by omega)).trans g0)) k2_0 k2_1 k2_2 k2_3 k2_4 k2_5 k2_6 k2_7 k2_8 k2_9 k2_10 k2_11 k2_12 ((n2 _ (by omega) (by omega) (by omega) (by omega) (by omega) (by omega) (by omega) (by omega) (by omega) (by omega) (by omega) (by omega) (by omega)).trans k1_0) ((n2 _ (by omega) (by omega) (by omega) (by omega) (by omega) (by omega) (by omega) (by omega) (by omega) (by omega) (by omega) (by omega) (by omega)).trans ((n1 _ (by omega) (by omega) (by omega) (by omega) (by omega) (by omega) (by omega) (by omega) (by omega) (by omega) (by omega) (by omega) (by omega) (by omega)).trans g19)) ((n2 _ (by omega) (by omega) (by omega) (by omega) (by omega) (by omega) (by omega) (by omega) (by omega) (by omega) (by omega) (by omega) (by omega)).trans ((n1 _ (by omega) (by omega) (by omega) (by omega) (by omega) (by omega) (by omega) (by omega) (by omega) (by omega) (by omega) (by omega) (by omega) (by omega)).trans g20)) ((n2 _ (by omega) (by omega) (by omega) (by omega) (by omega) (by omega) (by omega) (by omega) (by omega) (by omega) (by omega) (by omega) (by omega)).trans ((n1 _ (by omega) (by omega) (by omega) (by omega) (by omega) (by omega) (by omega) (by omega) (by omega) (by omega) (by omega) (by omega) (by omega) (by omega)).trans g21)) ((n2 _ (by omega) (by omega) (by omega) (by omega) (by omega) (by omega) (by omega) (by omega) (by omega) (by omega) (by omega) (by omega) (by omega)).trans k1_1) ((n2 _ (by omega) (by omega) (by omega) (by omega) (by omega) (by omega) (by omega) (by omega) (by omega) (by omega) (by omega) (by omega) (by omega)).trans k1_2) ((n2 _ (by omega) (by omega) (by omega) (by omega) (by omega) (by omega) (by omega) (by omega) (by omega) (by omega) (by omega) (by omega) (by omega)).trans k1_3) ((n2 _ (by omega) (by omega) (by omega) (by omega) (by omega) (by omega) (by omega) (by omega) (by omega) (by omega) (by omega) (by omega) (by omega)).trans k1_4) ((n2 _ (by omega) (by omega) (by omega) (by omega) (by omega) (by omega) (by omega) (by omega) (by omega) (by omega) (by omega) (by omega) (by omega)).trans k1_5) ((n2 _ (by omega) (by omega) (by omega) (by omega) (by omega) (by omega) (by omega) (by omega) (by omega) (by omega) (by omega) (by omega) (by omega)).trans k1_6) ((n2 _ (by omega) (by omega) (by omega) (by omega) (by omega) (by omega) (by omega) (by omega) (by omega) (by omega) (by omega) (by omega) (by omega)).trans k1_7) ((n2 _ (by omega) (by omega) (by omega) (by omega) (by omega) (by omega) (by omega) (by omega) (by omega) (by omega) (by omega) (by omega) (by omega)).trans k1_8) ((n2 _ (by omega) (by omega) (by omega) (by omega) (by omega) (by omega) (by omega) (by omega) (by omega) (by omega) (by omega) (by omega) (by omega)).trans k1_9) ((n2 _ (by omega) (by omega) (by omega) (by omega) (by omega) (by omega) (by omega) (by omega) (by omega) (by omega) (by omega) (by omega) (by omega)).trans k1_10) ((n2 _ (by omega) (by omega) (by omega) (by omega) (by omega) (by omega) (by omega) (by omega) (by omega) (by omega) (by omega) (by omega) (by omega)).trans k1_11) ((n2 _ (by omega) (by omega) (by omega) (by omega) (by omega) (by omega) (by omega) (by omega) (by omega) (by omega) (by omega) (by omega) (by omega)).trans k1_12) ((n2 _ (by omega) (by omega) (by omega) (by omega) (by omega) (by omega) (by omega) (by omega) (by omega) (by omega) (by omega) (by omega) (by omega)).trans k1_13) ((n2 _ (by omega) (by omega) (by omega) (by omega) (by omega) (by omega) (by omega) (by omega) (by omega) (by omega) (by omega) (by omega) (by omega)).trans ((n1 _ (by omega) (by omega) (by omega) (by omega) (by omega) (by omega) (by omega) (by omega) (by omega) (by omega) (by omega) (by omega) (by omega) (by omega)).trans g52)) ((n2 _ (by omega) (by omega) (by omega) (by omega) (by omega) (by omega) (by omega) (by omega) (by omega) (by omega) (by omega) (by omega) (by omega)).trans ((n1 _ (by omega) (by omega) (by omega) (by omega) (by omega) (by omega) (by omega) (by omega) (by omega) (by omega) (by omega) (by omega) (by omega) (by omega)).trans g53)) ((n2 _ (by omega) (by omega) (by omega) (by omega) (by omega) (by omega) (by omega) (by omega) (by omega) (by omega) (by omega) (by omega) (by omega)).trans ((n1 _ (by omega) (by omega) (by omega) (by omega) (by omega) (by omega) (by omega) (by omega) (by omega) (by omega) (by omega) (by omega) (by omega) (by omega)).trans g54)) ((n2 _ (by omega) (by omega) (by omega) (by omega) (by omega) (by omega) (by omega) (by omega) (by omega) (by omega) (by omega) (by omega) (by omega)).trans ((n1 _ (by omega) (by omega) (by omega) (by omega) (by omega) (by omega) (by omega) (by omega) (by omega) (by omega) (by omega) (by omega) (by omega) (by omega)).trans g55)) ((n2 _ (by omega) (by omega) (by omega) (by omega) (by omega) (by omega) (by omega) (by omega) (by omega) (by omega) (by omega) (by omega) (by omega)).trans ((n1 _ (by omega) (by omega) (by omega) (by omega) (by omega) (by omega) (by omega) (by omega) (by omega) (by omega) (by omega) (by omega) (by omega) (by omega)).trans g56)) ((n2 _ (by omega) (by omega) (by omega) (by omega) (by omega) (by omega) (by omega) (by omega) (by omega) (by omega) (by omega) (by omega) (by omega)).trans ((n1 _ (by omega) (by omega) (by omega) (by omega) (by omega) (by omega) (by omega) (by omega) (by omega) (by omega) (by omega) (by omega) (by omega) (by omega)).trans g57)) ((n2 _ (by omega) (by omega) (by omega) (by omega) (by omega) (by omega) (by omega) (by omega) (by omega) (by omega) (by omega) (by omega) (by omega)).trans ((n1 _ (by omega) (by omega) (by omega) (by omega) (by omega) (by omega) (by omega) (by omega) (by omega) (by omega) (by omega) (by omega) (by omega) (by omega)).trans g58)) ((n2 _ (by omega) (by omega) (by omega) (by omega) (by omega) (by omega) (by omega) (by omega) (by omega) (by omega) (by omega) (by omega) (by omega)).trans ((n1 _ (by omega) (by omega) (by omega) (by omega) (by omega) (by omega) (by omega) (by omega) (by omega) (by omega) (by omega) (by omega) (by omega) (by omega)).trans g59)) ((n2 _ (by omega) (by omega) (by omega) (by omega) (by omega) (by omega) (by omega) (by omega) (by omega) (by omega) (by omega) (by omega) (by omega)).trans ((n1 _ (by omega) (by omega) (by omega) (by omega) (by omega) (by omega) (by omega) (by omega) (by omega) (by omega) (by omega) (by omega) (by omega) (by omega)).trans g60)) ((n2 _ (by omega) (by omega) (by omega) (by omega) (by omega) (by omega) (by omega) (by omega) (by omega) (by omega) (by omega) (by omega) (by omega)).trans ((n1 _ (by omega) (by omega) (by omega) (by omega) (by omega) (by omega) (by omega) (by omega) (by omega) (by omega) (by omega) (by omega) (by omega) (by omega)).trans g61)) ((n2 _ (by omega) (by omega) (by omega) (by omega) (by omega) (by omega) (by omega) (by omega) (by omega) (by omega) (by omega) (by omega) (by omega)).trans ((n1 _ (by omega) (by omega) (by omega) (by omega) (by omega) (by omega) (by omega) (by omega) (by omega) (by omega) (by omega) (by omega) (by omega) (by omega)).trans g62)) ((n2 _ (by omega) (by omega) (by omega) (by omega) (by omega) (by omega) (by omega) (by omega) (by omega) (by omega) (by omega) (by omega) (by omega)).trans ((n1 _ (by omega) (by omega) (by omega) (by omega) (by omega) (by omega) (by omega) (by omega) (by omega) (by omega) (by omega) (by omega) (by omega) (by omega)).trans g63)) ((n2 _ (by omega) (by omega) (by omega) (by omega) (by omega) (by omega) (by omega) (by omega) (by omega) (by omega) (by omega) (by omega) (by omega)).trans ((n1 _ (by omega) (by omega) (by omega) (by omega) (by omega) (by omega) (by omega) (by omega) (by omega) (by omega) (by omega) (by omega) (by omega) (by omega)).trans g64)) (fun q z0 z1 z2 z3 z4 z5 z6 z7 z8 z9 z10 z11 z12 z13 z14 z15 z16 z17 z18 z19 z20 z21 z22 z23 z24 z25 z26 => ((n2 q z0 z1 z2 z3 z4 z5 z6 z7 z8 z9 z10 z11 z12).trans (n1 q z13 z14 z15 z16 z17 z18 z19 z20 z21 z22 z23 z24 z25 z26))) h
  · cases h
    exact A_throwSW (names := ["java/lang/RuntimeException", "java/lang/Exception"]) X htb (by decide +kernel) (by decide +kernel) kw_843 kw_23 (List.mem_of_getElem? (i := 26) rfl) xa_X10_86 xg_X10_86 dX10_restore_15 dX10_restore_18 dX10_restore_19 dX10_restore_22 dX10_restore_25 (Nat.le_of_ble_eq_true rfl) (Nat.le_of_ble_eq_true rfl) (Nat.le_of_ble_eq_true rfl) (Nat.le_of_ble_eq_true rfl) ⟨rfl, rfl⟩ (Nat.le_of_ble_eq_true rfl) (Nat.le_of_ble_eq_true rfl)
abbrev P_X10_undo (E : KE) (x : Nat) (v : Nat)  (hp : Hp) (al : Option Nat) (out : String ⊕ (Int32 × Int32 × Int32 × Int32 × Int32 × (Nat → Int32) × (Nat → Int32) × Int32 × (Nat → Int32) × (Nat → Int32) × Int32 × (Nat → Int32) × (Nat → Int32) × Int32 × (Nat → Int32) × (Nat → Int32) × Int32 × Int32)) : Option Value → Hp → Option Nat → Prop := fun v0 hp' al' => ∃ u, out = .inr u ∧ v0 = some (.int u.1) ∧ hp' (x + 3) = some (.inr (2, [.ref (x + 4), .ref (x + 7), .ref (x + 10), .ref (x + 13), .int u.2.1, .int u.2.2.1, .int u.2.2.2.1])) ∧ hp' (x + 4) = some (.inr (0, [.ref (x + 5), .ref (x + 6), .int u.2.2.2.2.1])) ∧ hp' (x + 5) = some (.inl (kC E 0, 6, .inl u.2.2.2.2.2.1)) ∧ hp' (x + 6) = some (.inl (kC E 0, 72, .inl u.2.2.2.2.2.2.1)) ∧ hp' (x + 7) = some (.inr (7, [.ref (x + 8), .ref (x + 9), .int u.2.2.2.2.2.2.2.1])) ∧ hp' (x + 8) = some (.inl (kC E 0, 6, .inl u.2.2.2.2.2.2.2.2.1)) ∧ hp' (x + 9) = some (.inl (kC E 0, 24, .inl u.2.2.2.2.2.2.2.2.2.1)) ∧ hp' (x + 10) = some (.inr (4, [.ref (x + 11), .ref (x + 12), .int u.2.2.2.2.2.2.2.2.2.2.1])) ∧ hp' (x + 11) = some (.inl (kC E 0, 300, .inl u.2.2.2.2.2.2.2.2.2.2.2.1)) ∧ hp' (x + 12) = some (.inl (kC E 0, 432, .inl u.2.2.2.2.2.2.2.2.2.2.2.2.1)) ∧ hp' (x + 13) = some (.inr (6, [.ref (x + 14), .ref (x + 15), .int u.2.2.2.2.2.2.2.2.2.2.2.2.2.1])) ∧ hp' (x + 14) = some (.inl (kC E 0, 36, .inl u.2.2.2.2.2.2.2.2.2.2.2.2.2.2.1)) ∧ hp' (x + 15) = some (.inl (kC E 0, 36, .inl u.2.2.2.2.2.2.2.2.2.2.2.2.2.2.2.1)) ∧ hp' (x + 18) = some (.inr (3, [.ref (x + 19), .int u.2.2.2.2.2.2.2.2.2.2.2.2.2.2.2.2.1, .int u.2.2.2.2.2.2.2.2.2.2.2.2.2.2.2.2.2])) ∧ (∀ q, q ≠ (x + 3) → q ≠ (x + 4) → q ≠ (x + 5) → q ≠ (x + 6) → q ≠ (x + 7) → q ≠ (x + 8) → q ≠ (x + 9) → q ≠ (x + 10) → q ≠ (x + 11) → q ≠ (x + 12) → q ≠ (x + 13) → q ≠ (x + 14) → q ≠ (x + 15) → q ≠ (x + 18) → hp' q = hp q) ∧ al = al'
def f_X10_undo (v_sd : Int32) (v_mn : Int32) (v_th : Int32) (v_dc : Int32) (v_fc : Nat → Int32) (v_dw : Nat → Int32) (v_pc : Int32) (v_ln : Nat → Int32) (v_lt : Nat → Int32) (v_tc : Int32) (v_en : Nat → Int32) (v_fr : Nat → Int32) (v_oc : Int32) (v_op : Nat → Int32) (v_os : Nat → Int32) (sd : Int32) (mn : Int32) (th : Int32) (dc : Int32) (fc : Nat → Int32) (dw : Nat → Int32) (pc : Int32) (ln : Nat → Int32) (lt : Nat → Int32) (tc : Int32) (en : Nat → Int32) (fr : Nat → Int32) (oc : Int32) (op : Nat → Int32) (os : Nat → Int32) (nx : Int32) (dp : Int32) : Option (String ⊕ (Int32 × Int32 × Int32 × Int32 × Int32 × (Nat → Int32) × (Nat → Int32) × Int32 × (Nat → Int32) × (Nat → Int32) × Int32 × (Nat → Int32) × (Nat → Int32) × Int32 × (Nat → Int32) × (Nat → Int32) × Int32 × Int32)) :=
  if dp = 0 then
    some (.inl "java/lang/IllegalStateException")
  else
    (f_X3_bringBack v_sd v_mn v_th v_dc v_fc v_dw v_pc v_ln v_lt v_tc v_en v_fr v_oc v_op v_os nx dp sd mn th dc fc dw pc ln lt tc en fr oc op os).bind fun t1 =>
    some (.inr (t1.2.1, t1.2.2.1, t1.2.2.2.1, t1.2.2.2.2.1, t1.2.2.2.2.2.1, t1.2.2.2.2.2.2.1, t1.2.2.2.2.2.2.2.1, t1.2.2.2.2.2.2.2.2.1, t1.2.2.2.2.2.2.2.2.2.1, t1.2.2.2.2.2.2.2.2.2.2.1, t1.2.2.2.2.2.2.2.2.2.2.2.1, t1.2.2.2.2.2.2.2.2.2.2.2.2.1, t1.2.2.2.2.2.2.2.2.2.2.2.2.2.1, t1.2.2.2.2.2.2.2.2.2.2.2.2.2.2.1, t1.2.2.2.2.2.2.2.2.2.2.2.2.2.2.2.1, t1.2.2.2.2.2.2.2.2.2.2.2.2.2.2.2.2, t1.1, t1.2.1))
set_option maxHeartbeats 4000000 in
set_option maxRecDepth 100000 in
theorem c_X10_undo {E : KE} {l : Launch} {hp : Hp} {al : Option Nat} {x : Nat} {v : Nat} {sd : Int32} {mn : Int32} {th : Int32} {dc : Int32} {fc : Nat → Int32} {dw : Nat → Int32} {pc : Int32} {ln : Nat → Int32} {lt : Nat → Int32} {tc : Int32} {en : Nat → Int32} {fr : Nat → Int32} {oc : Int32} {op : Nat → Int32} {os : Nat → Int32} {nx : Int32} {dp : Int32} {rws : Nat → Option Nat} {v_sd : Int32} {v_mn : Int32} {v_th : Int32} {v_dc : Int32} {v_fc : Nat → Int32} {v_dw : Nat → Int32} {v_pc : Int32} {v_ln : Nat → Int32} {v_lt : Nat → Int32} {v_tc : Int32} {v_en : Nat → Int32} {v_fr : Nat → Int32} {v_oc : Int32} {v_op : Nat → Int32} {v_os : Nat → Int32}  {out : String ⊕ (Int32 × Int32 × Int32 × Int32 × Int32 × (Nat → Int32) × (Nat → Int32) × Int32 × (Nat → Int32) × (Nat → Int32) × Int32 × (Nat → Int32) × (Nat → Int32) × Int32 × (Nat → Int32) × (Nat → Int32) × Int32 × Int32)} (g0 : hp x = some (.inr (10, [.ref (x + 126), .ref (x + 128), .ref (x + 1), .ref (x + 3), .ref (x + 16), .ref (x + 18), .ref (x + 124), .ref (x + 125)]))) (g3 : hp (x + 3) = some (.inr (2, [.ref (x + 4), .ref (x + 7), .ref (x + 10), .ref (x + 13), .int sd, .int mn, .int th]))) (g4 : hp (x + 4) = some (.inr (0, [.ref (x + 5), .ref (x + 6), .int dc]))) (g5 : hp (x + 5) = some (.inl (kC E 0, 6, .inl fc))) (g6 : hp (x + 6) = some (.inl (kC E 0, 72, .inl dw))) (g7 : hp (x + 7) = some (.inr (7, [.ref (x + 8), .ref (x + 9), .int pc]))) (g8 : hp (x + 8) = some (.inl (kC E 0, 6, .inl ln))) (g9 : hp (x + 9) = some (.inl (kC E 0, 24, .inl lt))) (g10 : hp (x + 10) = some (.inr (4, [.ref (x + 11), .ref (x + 12), .int tc]))) (g11 : hp (x + 11) = some (.inl (kC E 0, 300, .inl en))) (g12 : hp (x + 12) = some (.inl (kC E 0, 432, .inl fr))) (g13 : hp (x + 13) = some (.inr (6, [.ref (x + 14), .ref (x + 15), .int oc]))) (g14 : hp (x + 14) = some (.inl (kC E 0, 36, .inl op))) (g15 : hp (x + 15) = some (.inl (kC E 0, 36, .inl os))) (g18 : hp (x + 18) = some (.inr (3, [.ref (x + 19), .int nx, .int dp]))) (g19 : hp (x + 19) = some (.inl (kC E 5, 8, .inr (.inr (.inr (.inr rws)))))) (g39 : hp v = some (.inr (2, [.ref (v + 1), .ref (v + 4), .ref (v + 7), .ref (v + 10), .int v_sd, .int v_mn, .int v_th]))) (g40 : hp (v + 1) = some (.inr (0, [.ref (v + 2), .ref (v + 3), .int v_dc]))) (g41 : hp (v + 2) = some (.inl (kC E 0, 6, .inl v_fc))) (g42 : hp (v + 3) = some (.inl (kC E 0, 72, .inl v_dw))) (g43 : hp (v + 4) = some (.inr (7, [.ref (v + 5), .ref (v + 6), .int v_pc]))) (g44 : hp (v + 5) = some (.inl (kC E 0, 6, .inl v_ln))) (g45 : hp (v + 6) = some (.inl (kC E 0, 24, .inl v_lt))) (g46 : hp (v + 7) = some (.inr (4, [.ref (v + 8), .ref (v + 9), .int v_tc]))) (g47 : hp (v + 8) = some (.inl (kC E 0, 300, .inl v_en))) (g48 : hp (v + 9) = some (.inl (kC E 0, 432, .inl v_fr))) (g49 : hp (v + 10) = some (.inr (6, [.ref (v + 11), .ref (v + 12), .int v_oc]))) (g50 : hp (v + 11) = some (.inl (kC E 0, 36, .inl v_op))) (g51 : hp (v + 12) = some (.inl (kC E 0, 36, .inl v_os))) (hvv : rws (Int32.toNatClampNeg (((nx + 8) - 1) - ((nx + 8) - 1) / 8 * 8)) = some v) (hlv : (x + 20) ≤ v) (huv : (v + 13) ≤ (x + 124)) (h : f_X10_undo v_sd v_mn v_th v_dc v_fc v_dw v_pc v_ln v_lt v_tc v_en v_fr v_oc v_op v_os sd mn th dc fc dw pc ln lt tc en fr oc op os nx dp = some out) : AX E l yX10_undo cX10_undo 1 (Option.some Jvm.ClassFile.FieldType.int) ⟨6, 1, 6, 102⟩ [.ref x] hp al (P_X10_undo E x v hp al out) (kThr out hp) := by
  refine A_ofX (by decide +kernel) (Nat.le_of_ble_eq_true rfl) ?_
  intro p e s m args below meth c X hr htb
  have X : CX E p l s m args meth c "DiceAudit" cX10_undo 1 := X
  refine A_L (L' := [(0, .ref x)]) rfl ?_
  unfold f_X10_undo at h
  refine A_aload_n X dX10_undo_0 0 rfl ?_
  refine A_get X dX10_undo_1 kcl_X10 5 (by decide) kw_656 g0 rfl ?_
  refine A_get X dX10_undo_4 kcl_X3 2 (by decide) kw_203 g18 rfl ?_
  refine A_if_ne (tgt := 21) X dX10_undo_7 h (by decide) (fun hc h => ?_) (fun hc h => ?_)
  · refine A_aload_n X dX10_undo_21 0 rfl ?_
    refine A_get X dX10_undo_22 kcl_X10 5 (by decide) kw_656 g0 rfl ?_
    refine A_aload_n X dX10_undo_25 0 rfl ?_
    refine A_get X dX10_undo_26 kcl_X10 3 (by decide) kw_654 g0 rfl ?_
    obtain ⟨t1, hct1, h⟩ := bind_o h
    refine A_c (k' := 0) (n' := 0) rfl rfl (A_runV (rest := []) X dX10_undo_29 (c_X3_bringBack g18 g19 g3 g4 g5 g6 g7 g8 g9 g10 g11 g12 g13 g14 g15 g39 g40 g41 g42 g43 g44 g45 g46 g47 g48 g49 g50 g51 hvv (by omega) (by omega) (by omega) (by omega) hct1) kY_X3_bringBack kw_1400 g18 rfl rfl ⟨(Nat.le_of_ble_eq_true rfl), (Nat.le_of_ble_eq_true rfl), (Nat.le_of_ble_eq_true rfl), (Nat.le_of_ble_eq_true rfl)⟩ rfl (Nat.le_of_ble_eq_true rfl)) (fun v9 hp1 al9 hP => ?_)
    obtain ⟨rfl, k1_0, k1_1, k1_2, k1_3, k1_4, k1_5, k1_6, k1_7, k1_8, k1_9, k1_10, k1_11, k1_12, k1_13, n1, rfl⟩ := hP
    replace k1_0 : hp1 (x + 18) = some (.inr (3, [.ref (x + 19), .int t1.1, .int t1.2.1])) := k1_0
    replace k1_1 : hp1 (x + 3) = some (.inr (2, [.ref (x + 4), .ref (x + 7), .ref (x + 10), .ref (x + 13), .int t1.2.2.1, .int t1.2.2.2.1, .int t1.2.2.2.2.1])) := k1_1
    replace k1_2 : hp1 (x + 4) = some (.inr (0, [.ref (x + 5), .ref (x + 6), .int t1.2.2.2.2.2.1])) := k1_2
    replace k1_3 : hp1 (x + 5) = some (.inl (kC E 0, 6, .inl t1.2.2.2.2.2.2.1)) := k1_3
    replace k1_4 : hp1 (x + 6) = some (.inl (kC E 0, 72, .inl t1.2.2.2.2.2.2.2.1)) := k1_4
    replace k1_5 : hp1 (x + 7) = some (.inr (7, [.ref (x + 8), .ref (x + 9), .int t1.2.2.2.2.2.2.2.2.1])) := k1_5
    replace k1_6 : hp1 (x + 8) = some (.inl (kC E 0, 6, .inl t1.2.2.2.2.2.2.2.2.2.1)) := k1_6
    replace k1_7 : hp1 (x + 9) = some (.inl (kC E 0, 24, .inl t1.2.2.2.2.2.2.2.2.2.2.1)) := k1_7
    replace k1_8 : hp1 (x + 10) = some (.inr (4, [.ref (x + 11), .ref (x + 12), .int t1.2.2.2.2.2.2.2.2.2.2.2.1])) := k1_8
    replace k1_9 : hp1 (x + 11) = some (.inl (kC E 0, 300, .inl t1.2.2.2.2.2.2.2.2.2.2.2.2.1)) := k1_9
    replace k1_10 : hp1 (x + 12) = some (.inl (kC E 0, 432, .inl t1.2.2.2.2.2.2.2.2.2.2.2.2.2.1)) := k1_10
    replace k1_11 : hp1 (x + 13) = some (.inr (6, [.ref (x + 14), .ref (x + 15), .int t1.2.2.2.2.2.2.2.2.2.2.2.2.2.2.1])) := k1_11
    replace k1_12 : hp1 (x + 14) = some (.inl (kC E 0, 36, .inl t1.2.2.2.2.2.2.2.2.2.2.2.2.2.2.2.1)) := k1_12
    replace k1_13 : hp1 (x + 15) = some (.inl (kC E 0, 36, .inl t1.2.2.2.2.2.2.2.2.2.2.2.2.2.2.2.2)) := k1_13
    refine A_st (st' := []) rfl ?_
    refine A_aload_n X dX10_undo_32 0 rfl ?_
    refine A_get X dX10_undo_33 kcl_X10 5 (by decide) kw_656 ((n1 _ (by omega) (by omega) (by omega) (by omega) (by omega) (by omega) (by omega) (by omega) (by omega) (by omega) (by omega) (by omega) (by omega) (by omega)).trans g0) rfl ?_
    refine A_get X dX10_undo_36 kcl_X3 2 (by decide) kw_203 k1_0 rfl ?_
    cases h
    exact A_iretX X dX10_undo_39 hr ⟨_, rfl, rfl, k1_1, k1_2, k1_3, k1_4, k1_5, k1_6, k1_7, k1_8, k1_9, k1_10, k1_11, k1_12, k1_13, k1_0, (fun q z0 z1 z2 z3 z4 z5 z6 z7 z8 z9 z10 z11 z12 z13 => (n1 q z13 z0 z1 z2 z3 z4 z5 z6 z7 z8 z9 z10 z11 z12)), rfl⟩ (Nat.le_of_ble_eq_true rfl) (Nat.le_of_ble_eq_true rfl)
  · cases h
    exact A_throwSW (names := ["java/lang/RuntimeException", "java/lang/Exception"]) X htb (by decide +kernel) (by decide +kernel) kw_843 kw_23 (List.mem_of_getElem? (i := 27) rfl) xa_X10_86 xg_X10_86 dX10_undo_10 dX10_undo_13 dX10_undo_14 dX10_undo_17 dX10_undo_20 (Nat.le_of_ble_eq_true rfl) (Nat.le_of_ble_eq_true rfl) (Nat.le_of_ble_eq_true rfl) (Nat.le_of_ble_eq_true rfl) ⟨rfl, rfl⟩ (Nat.le_of_ble_eq_true rfl) (Nat.le_of_ble_eq_true rfl)
def f_X10_undoDepth (dp : Int32)  : Option (Int32) :=
  some dp
set_option maxHeartbeats 4000000 in
set_option maxRecDepth 100000 in
theorem c_X10_undoDepth {E : KE} {l : Launch} {hp : Hp} {al : Option Nat} {x : Nat} {nx : Int32} {dp : Int32}  {out : Int32} (g0 : hp x = some (.inr (10, [.ref (x + 126), .ref (x + 128), .ref (x + 1), .ref (x + 3), .ref (x + 16), .ref (x + 18), .ref (x + 124), .ref (x + 125)]))) (g18 : hp (x + 18) = some (.inr (3, [.ref (x + 19), .int nx, .int dp])))  (h : f_X10_undoDepth dp = some out) : AM E l yX10_undoDepth cX10_undoDepth 1 (Option.some Jvm.ClassFile.FieldType.int) ⟨0, 0, 0, 0⟩ [.ref x] hp al (kRet out hp al) := by
  refine A_of (by decide +kernel) (Nat.le_of_ble_eq_true rfl) ?_
  intro p e s m args below meth c X hr hnm
  have X : CX E p l s m args meth c "DiceAudit" cX10_undoDepth 1 := X
  refine A_L (L' := [(0, .ref x)]) rfl ?_
  unfold f_X10_undoDepth at h
  refine A_aload_n X dX10_undoDepth_0 0 rfl ?_
  refine A_get X dX10_undoDepth_1 kcl_X10 5 (by decide) kw_656 g0 rfl ?_
  refine A_get X dX10_undoDepth_4 kcl_X3 2 (by decide) kw_203 g18 rfl ?_
  cases h
  exact A_iret X dX10_undoDepth_7 hr ⟨rfl, rfl, rfl⟩ (Nat.le_of_ble_eq_true rfl) (Nat.le_of_ble_eq_true rfl)
