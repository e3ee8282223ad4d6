def fX (k : Nat) : Nat := [0, 1, 51, 58, 120, 124, 127, 2, 47, 48, 49, 50, 52, 53, 54, 55, 56, 57, 59, 60, 116, 117, 118, 119, 121, 122, 123, 125, 126, 128, 129, 130, 131, 132, 3, 14, 25, 36, 61, 72, 83, 94, 105, 4, 5, 6, 7, 8, 9, 10, 11, 12, 13, 15, 16, 17, 18, 19, 20, 21, 22, 23, 24, 26, 27, 28, 29, 30, 31, 32, 33, 34, 35, 37, 38, 39, 40, 41, 42, 43, 44, 45, 46, 62, 63, 64, 65, 66, 67, 68, 69, 70, 71, 73, 74, 75, 76, 77, 78, 79, 80, 81, 82, 84, 85, 86, 87, 88, 89, 90, 91, 92, 93, 95, 96, 97, 98, 99, 100, 101, 102, 103, 104, 106, 107, 108, 109, 110, 111, 112, 113, 114, 115].getD k 0
def gX (k : Nat) : Nat := [0, 1, 7, 34, 43, 44, 45, 46, 47, 48, 49, 50, 51, 52, 35, 53, 54, 55, 56, 57, 58, 59, 60, 61, 62, 36, 63, 64, 65, 66, 67, 68, 69, 70, 71, 72, 37, 73, 74, 75, 76, 77, 78, 79, 80, 81, 82, 8, 9, 10, 11, 2, 12, 13, 14, 15, 16, 17, 3, 18, 19, 38, 83, 84, 85, 86, 87, 88, 89, 90, 91, 92, 39, 93, 94, 95, 96, 97, 98, 99, 100, 101, 102, 40, 103, 104, 105, 106, 107, 108, 109, 110, 111, 112, 41, 113, 114, 115, 116, 117, 118, 119, 120, 121, 122, 42, 123, 124, 125, 126, 127, 128, 129, 130, 131, 132, 20, 21, 22, 23, 4, 24, 25, 26, 5, 27, 28, 6, 29, 30, 31, 32, 33].getD k 0
theorem gfX : ∀ k, k < 133 → gX (fX k) = k := by decide +kernel
theorem fX_0 : ∀ i, i < 10 → fX (43 + 10 * 0 + i) = 4 + i := by decide
theorem fX_1 : ∀ i, i < 10 → fX (43 + 10 * 1 + i) = 15 + i := by decide
theorem fX_2 : ∀ i, i < 10 → fX (43 + 10 * 2 + i) = 26 + i := by decide
theorem fX_3 : ∀ i, i < 10 → fX (43 + 10 * 3 + i) = 37 + i := by decide
theorem fX_4 : ∀ i, i < 10 → fX (43 + 10 * 4 + i) = 62 + i := by decide
theorem fX_5 : ∀ i, i < 10 → fX (43 + 10 * 5 + i) = 73 + i := by decide
theorem fX_6 : ∀ i, i < 10 → fX (43 + 10 * 6 + i) = 84 + i := by decide
theorem fX_7 : ∀ i, i < 10 → fX (43 + 10 * 7 + i) = 95 + i := by decide
theorem fX_8 : ∀ i, i < 10 → fX (43 + 10 * 8 + i) = 106 + i := by decide
def bigX (ct : Nat → ClassId) (h o1 o3 o5 o7 o9 o11 : Nat) (f2 f4 f6 f8 f10 f12 : Nat → Nat) : va_W := (eO h 0 [.ref o1, .ref o3, .ref o5, .ref o7, .ref o9, .ref o11, .int 0] :: eO o1 1 [.int 0, .ref (f2 1), .ref (f2 2), .ref (f2 3), .ref (f2 4), .ref (f2 5), .ref (f2 6), .ref (f2 7), .ref (f2 8), .ref (f2 9)] :: eI (f2 1) (ct 0) 10 :: (grid ct (f2 2) ++ (grid ct (f2 3) ++ (grid ct (f2 4) ++ (grid ct (f2 5) ++ eI (f2 6) (ct 0) 10 :: eI (f2 7) (ct 0) 10 :: eI (f2 8) (ct 0) 10 :: eI (f2 9) (ct 0) 10 :: eO o3 2 [.ref o1, .int 0, .ref (f4 2), .ref (f4 3), .ref (f4 4), .ref (f4 5), .ref (f4 6), .int 0, .ref (f4 8)] :: eI (f4 2) (ct 0) 10 :: eI (f4 3) (ct 0) 10 :: eI (f4 4) (ct 0) 10 :: eI (f4 5) (ct 0) 10 :: eI (f4 6) (ct 0) 10 :: eI (f4 8) (ct 0) 10 :: eO o5 3 [.ref o1, .ref o3, .int 0, .ref (f6 3), .ref (f6 4), .ref (f6 5), .ref (f6 6), .ref (f6 7), .ref (f6 8), .ref (f6 9), .ref (f6 10), .ref (f6 11), .ref (f6 12), .ref (f6 13)] :: eI (f6 3) (ct 0) 10 :: eI (f6 4) (ct 0) 10 :: (grid ct (f6 5) ++ (grid ct (f6 6) ++ (grid ct (f6 7) ++ (grid ct (f6 8) ++ (grid ct (f6 9) ++ eI (f6 10) (ct 0) 10 :: eI (f6 11) (ct 0) 126 :: eI (f6 12) (ct 0) 126 :: eI (f6 13) (ct 0) 126 :: eO o7 4 [.ref o1, .ref o3, .ref o5, .int 0, .ref (f8 4), .ref (f8 5), .ref (f8 6), .int 0] :: eI (f8 4) (ct 0) 10 :: eI (f8 5) (ct 0) 126 :: eI (f8 6) (ct 0) 126 :: eO o9 5 [.ref o1, .ref o5, .ref o7, .ref (f10 3), .ref (f10 4), .int 0] :: ((f10 3), .inl (ct 1, 126, .inl (fun _ => 0))) :: eI (f10 4) (ct 0) 126 :: eO o11 6 [.ref o1, .ref o5, .ref o7, .ref o9, .int 0, .ref (f12 5), .ref (f12 6), .ref (f12 7), .ref (f12 8), .int 0, .ref (f12 10), .int 0, .int 0, .int 0] :: eI (f12 5) (ct 0) 16 :: eI (f12 6) (ct 0) 6 :: eI (f12 7) (ct 0) 126 :: eI (f12 8) (ct 0) 6 :: [eI (f12 10) (ct 0) 40]))))))))))
theorem bigX_eq (ct : Nat → ClassId) (h o1 o3 o5 o7 o9 o11 : Nat) (f2 f4 f6 f8 f10 f12 : Nat → Nat) : ([eO h 0 [.ref o1, .ref o3, .ref o5, .ref o7, .ref o9, .ref o11, .int 0]] ++ (((((wPF ct o1 f2 ++ wSF ct o3 o1 f4) ++ wGF ct o5 o1 o3 f6) ++ wKF ct o7 o1 o3 o5 f8) ++ wDF ct o9 o1 o5 o7 f10) ++ wAF ct o11 o1 o5 o7 o9 f12)) = bigX ct h o1 o3 o5 o7 o9 o11 f2 f4 f6 f8 f10 f12 := by
  simp only [bigX, wPF, wSF, wGF, wKF, wDF, wAF, List.append_assoc, List.cons_append, List.nil_append]
set_option maxHeartbeats 1000000 in
set_option maxRecDepth 20000 in
theorem hX_0 (ct : Nat → ClassId) (h o1 o3 o5 o7 o9 o11 : Nat) (f2 f4 f6 f8 f10 f12 : Nat → Nat) : (bigX ct h o1 o3 o5 o7 o9 o11 f2 f4 f6 f8 f10 f12)[0]? = some ((QX [h, o1, o3, o5, o7, o9, o11, f2 1, f2 6, f2 7, f2 8, f2 9, f4 2, f4 3, f4 4, f4 5, f4 6, f4 8, f6 3, f6 4, f6 10, f6 11, f6 12, f6 13, f8 4, f8 5, f8 6, f10 3, f10 4, f12 5, f12 6, f12 7, f12 8, f12 10, f2 2, f2 3, f2 4, f2 5, f6 5, f6 6, f6 7, f6 8, f6 9] [f2 2, f2 3, f2 4, f2 5, f6 5, f6 6, f6 7, f6 8, f6 9]) 0, cX ct (QX [h, o1, o3, o5, o7, o9, o11, f2 1, f2 6, f2 7, f2 8, f2 9, f4 2, f4 3, f4 4, f4 5, f4 6, f4 8, f6 3, f6 4, f6 10, f6 11, f6 12, f6 13, f8 4, f8 5, f8 6, f10 3, f10 4, f12 5, f12 6, f12 7, f12 8, f12 10, f2 2, f2 3, f2 4, f2 5, f6 5, f6 6, f6 7, f6 8, f6 9] [f2 2, f2 3, f2 4, f2 5, f6 5, f6 6, f6 7, f6 8, f6 9]) M0 0) := rfl
set_option maxHeartbeats 1000000 in
set_option maxRecDepth 20000 in
theorem hX_1 (ct : Nat → ClassId) (h o1 o3 o5 o7 o9 o11 : Nat) (f2 f4 f6 f8 f10 f12 : Nat → Nat) : (bigX ct h o1 o3 o5 o7 o9 o11 f2 f4 f6 f8 f10 f12)[1]? = some ((QX [h, o1, o3, o5, o7, o9, o11, f2 1, f2 6, f2 7, f2 8, f2 9, f4 2, f4 3, f4 4, f4 5, f4 6, f4 8, f6 3, f6 4, f6 10, f6 11, f6 12, f6 13, f8 4, f8 5, f8 6, f10 3, f10 4, f12 5, f12 6, f12 7, f12 8, f12 10, f2 2, f2 3, f2 4, f2 5, f6 5, f6 6, f6 7, f6 8, f6 9] [f2 2, f2 3, f2 4, f2 5, f6 5, f6 6, f6 7, f6 8, f6 9]) 1, cX ct (QX [h, o1, o3, o5, o7, o9, o11, f2 1, f2 6, f2 7, f2 8, f2 9, f4 2, f4 3, f4 4, f4 5, f4 6, f4 8, f6 3, f6 4, f6 10, f6 11, f6 12, f6 13, f8 4, f8 5, f8 6, f10 3, f10 4, f12 5, f12 6, f12 7, f12 8, f12 10, f2 2, f2 3, f2 4, f2 5, f6 5, f6 6, f6 7, f6 8, f6 9] [f2 2, f2 3, f2 4, f2 5, f6 5, f6 6, f6 7, f6 8, f6 9]) M0 1) := rfl
set_option maxHeartbeats 1000000 in
set_option maxRecDepth 20000 in
theorem hX_2 (ct : Nat → ClassId) (h o1 o3 o5 o7 o9 o11 : Nat) (f2 f4 f6 f8 f10 f12 : Nat → Nat) : (bigX ct h o1 o3 o5 o7 o9 o11 f2 f4 f6 f8 f10 f12)[51]? = some ((QX [h, o1, o3, o5, o7, o9, o11, f2 1, f2 6, f2 7, f2 8, f2 9, f4 2, f4 3, f4 4, f4 5, f4 6, f4 8, f6 3, f6 4, f6 10, f6 11, f6 12, f6 13, f8 4, f8 5, f8 6, f10 3, f10 4, f12 5, f12 6, f12 7, f12 8, f12 10, f2 2, f2 3, f2 4, f2 5, f6 5, f6 6, f6 7, f6 8, f6 9] [f2 2, f2 3, f2 4, f2 5, f6 5, f6 6, f6 7, f6 8, f6 9]) 2, cX ct (QX [h, o1, o3, o5, o7, o9, o11, f2 1, f2 6, f2 7, f2 8, f2 9, f4 2, f4 3, f4 4, f4 5, f4 6, f4 8, f6 3, f6 4, f6 10, f6 11, f6 12, f6 13, f8 4, f8 5, f8 6, f10 3, f10 4, f12 5, f12 6, f12 7, f12 8, f12 10, f2 2, f2 3, f2 4, f2 5, f6 5, f6 6, f6 7, f6 8, f6 9] [f2 2, f2 3, f2 4, f2 5, f6 5, f6 6, f6 7, f6 8, f6 9]) M0 2) := rfl
set_option maxHeartbeats 1000000 in
set_option maxRecDepth 20000 in
theorem hX_3 (ct : Nat → ClassId) (h o1 o3 o5 o7 o9 o11 : Nat) (f2 f4 f6 f8 f10 f12 : Nat → Nat) : (bigX ct h o1 o3 o5 o7 o9 o11 f2 f4 f6 f8 f10 f12)[58]? = some ((QX [h, o1, o3, o5, o7, o9, o11, f2 1, f2 6, f2 7, f2 8, f2 9, f4 2, f4 3, f4 4, f4 5, f4 6, f4 8, f6 3, f6 4, f6 10, f6 11, f6 12, f6 13, f8 4, f8 5, f8 6, f10 3, f10 4, f12 5, f12 6, f12 7, f12 8, f12 10, f2 2, f2 3, f2 4, f2 5, f6 5, f6 6, f6 7, f6 8, f6 9] [f2 2, f2 3, f2 4, f2 5, f6 5, f6 6, f6 7, f6 8, f6 9]) 3, cX ct (QX [h, o1, o3, o5, o7, o9, o11, f2 1, f2 6, f2 7, f2 8, f2 9, f4 2, f4 3, f4 4, f4 5, f4 6, f4 8, f6 3, f6 4, f6 10, f6 11, f6 12, f6 13, f8 4, f8 5, f8 6, f10 3, f10 4, f12 5, f12 6, f12 7, f12 8, f12 10, f2 2, f2 3, f2 4, f2 5, f6 5, f6 6, f6 7, f6 8, f6 9] [f2 2, f2 3, f2 4, f2 5, f6 5, f6 6, f6 7, f6 8, f6 9]) M0 3) := rfl
set_option maxHeartbeats 1000000 in
set_option maxRecDepth 20000 in
theorem hX_4 (ct : Nat → ClassId) (h o1 o3 o5 o7 o9 o11 : Nat) (f2 f4 f6 f8 f10 f12 : Nat → Nat) : (bigX ct h o1 o3 o5 o7 o9 o11 f2 f4 f6 f8 f10 f12)[120]? = some ((QX [h, o1, o3, o5, o7, o9, o11, f2 1, f2 6, f2 7, f2 8, f2 9, f4 2, f4 3, f4 4, f4 5, f4 6, f4 8, f6 3, f6 4, f6 10, f6 11, f6 12, f6 13, f8 4, f8 5, f8 6, f10 3, f10 4, f12 5, f12 6, f12 7, f12 8, f12 10, f2 2, f2 3, f2 4, f2 5, f6 5, f6 6, f6 7, f6 8, f6 9] [f2 2, f2 3, f2 4, f2 5, f6 5, f6 6, f6 7, f6 8, f6 9]) 4, cX ct (QX [h, o1, o3, o5, o7, o9, o11, f2 1, f2 6, f2 7, f2 8, f2 9, f4 2, f4 3, f4 4, f4 5, f4 6, f4 8, f6 3, f6 4, f6 10, f6 11, f6 12, f6 13, f8 4, f8 5, f8 6, f10 3, f10 4, f12 5, f12 6, f12 7, f12 8, f12 10, f2 2, f2 3, f2 4, f2 5, f6 5, f6 6, f6 7, f6 8, f6 9] [f2 2, f2 3, f2 4, f2 5, f6 5, f6 6, f6 7, f6 8, f6 9]) M0 4) := rfl
set_option maxHeartbeats 1000000 in
set_option maxRecDepth 20000 in
theorem hX_5 (ct : Nat → ClassId) (h o1 o3 o5 o7 o9 o11 : Nat) (f2 f4 f6 f8 f10 f12 : Nat → Nat) : (bigX ct h o1 o3 o5 o7 o9 o11 f2 f4 f6 f8 f10 f12)[124]? = some ((QX [h, o1, o3, o5, o7, o9, o11, f2 1, f2 6, f2 7, f2 8, f2 9, f4 2, f4 3, f4 4, f4 5, f4 6, f4 8, f6 3, f6 4, f6 10, f6 11, f6 12, f6 13, f8 4, f8 5, f8 6, f10 3, f10 4, f12 5, f12 6, f12 7, f12 8, f12 10, f2 2, f2 3, f2 4, f2 5, f6 5, f6 6, f6 7, f6 8, f6 9] [f2 2, f2 3, f2 4, f2 5, f6 5, f6 6, f6 7, f6 8, f6 9]) 5, cX ct (QX [h, o1, o3, o5, o7, o9, o11, f2 1, f2 6, f2 7, f2 8, f2 9, f4 2, f4 3, f4 4, f4 5, f4 6, f4 8, f6 3, f6 4, f6 10, f6 11, f6 12, f6 13, f8 4, f8 5, f8 6, f10 3, f10 4, f12 5, f12 6, f12 7, f12 8, f12 10, f2 2, f2 3, f2 4, f2 5, f6 5, f6 6, f6 7, f6 8, f6 9] [f2 2, f2 3, f2 4, f2 5, f6 5, f6 6, f6 7, f6 8, f6 9]) M0 5) := rfl
set_option maxHeartbeats 1000000 in
set_option maxRecDepth 20000 in
theorem hX_6 (ct : Nat → ClassId) (h o1 o3 o5 o7 o9 o11 : Nat) (f2 f4 f6 f8 f10 f12 : Nat → Nat) : (bigX ct h o1 o3 o5 o7 o9 o11 f2 f4 f6 f8 f10 f12)[127]? = some ((QX [h, o1, o3, o5, o7, o9, o11, f2 1, f2 6, f2 7, f2 8, f2 9, f4 2, f4 3, f4 4, f4 5, f4 6, f4 8, f6 3, f6 4, f6 10, f6 11, f6 12, f6 13, f8 4, f8 5, f8 6, f10 3, f10 4, f12 5, f12 6, f12 7, f12 8, f12 10, f2 2, f2 3, f2 4, f2 5, f6 5, f6 6, f6 7, f6 8, f6 9] [f2 2, f2 3, f2 4, f2 5, f6 5, f6 6, f6 7, f6 8, f6 9]) 6, cX ct (QX [h, o1, o3, o5, o7, o9, o11, f2 1, f2 6, f2 7, f2 8, f2 9, f4 2, f4 3, f4 4, f4 5, f4 6, f4 8, f6 3, f6 4, f6 10, f6 11, f6 12, f6 13, f8 4, f8 5, f8 6, f10 3, f10 4, f12 5, f12 6, f12 7, f12 8, f12 10, f2 2, f2 3, f2 4, f2 5, f6 5, f6 6, f6 7, f6 8, f6 9] [f2 2, f2 3, f2 4, f2 5, f6 5, f6 6, f6 7, f6 8, f6 9]) M0 6) := rfl
set_option maxHeartbeats 1000000 in
set_option maxRecDepth 20000 in
theorem hX_7 (ct : Nat → ClassId) (h o1 o3 o5 o7 o9 o11 : Nat) (f2 f4 f6 f8 f10 f12 : Nat → Nat) : (bigX ct h o1 o3 o5 o7 o9 o11 f2 f4 f6 f8 f10 f12)[2]? = some ((QX [h, o1, o3, o5, o7, o9, o11, f2 1, f2 6, f2 7, f2 8, f2 9, f4 2, f4 3, f4 4, f4 5, f4 6, f4 8, f6 3, f6 4, f6 10, f6 11, f6 12, f6 13, f8 4, f8 5, f8 6, f10 3, f10 4, f12 5, f12 6, f12 7, f12 8, f12 10, f2 2, f2 3, f2 4, f2 5, f6 5, f6 6, f6 7, f6 8, f6 9] [f2 2, f2 3, f2 4, f2 5, f6 5, f6 6, f6 7, f6 8, f6 9]) 7, cX ct (QX [h, o1, o3, o5, o7, o9, o11, f2 1, f2 6, f2 7, f2 8, f2 9, f4 2, f4 3, f4 4, f4 5, f4 6, f4 8, f6 3, f6 4, f6 10, f6 11, f6 12, f6 13, f8 4, f8 5, f8 6, f10 3, f10 4, f12 5, f12 6, f12 7, f12 8, f12 10, f2 2, f2 3, f2 4, f2 5, f6 5, f6 6, f6 7, f6 8, f6 9] [f2 2, f2 3, f2 4, f2 5, f6 5, f6 6, f6 7, f6 8, f6 9]) M0 7) := rfl
set_option maxHeartbeats 1000000 in
set_option maxRecDepth 20000 in
theorem hX_8 (ct : Nat → ClassId) (h o1 o3 o5 o7 o9 o11 : Nat) (f2 f4 f6 f8 f10 f12 : Nat → Nat) : (bigX ct h o1 o3 o5 o7 o9 o11 f2 f4 f6 f8 f10 f12)[47]? = some ((QX [h, o1, o3, o5, o7, o9, o11, f2 1, f2 6, f2 7, f2 8, f2 9, f4 2, f4 3, f4 4, f4 5, f4 6, f4 8, f6 3, f6 4, f6 10, f6 11, f6 12, f6 13, f8 4, f8 5, f8 6, f10 3, f10 4, f12 5, f12 6, f12 7, f12 8, f12 10, f2 2, f2 3, f2 4, f2 5, f6 5, f6 6, f6 7, f6 8, f6 9] [f2 2, f2 3, f2 4, f2 5, f6 5, f6 6, f6 7, f6 8, f6 9]) 8, cX ct (QX [h, o1, o3, o5, o7, o9, o11, f2 1, f2 6, f2 7, f2 8, f2 9, f4 2, f4 3, f4 4, f4 5, f4 6, f4 8, f6 3, f6 4, f6 10, f6 11, f6 12, f6 13, f8 4, f8 5, f8 6, f10 3, f10 4, f12 5, f12 6, f12 7, f12 8, f12 10, f2 2, f2 3, f2 4, f2 5, f6 5, f6 6, f6 7, f6 8, f6 9] [f2 2, f2 3, f2 4, f2 5, f6 5, f6 6, f6 7, f6 8, f6 9]) M0 8) := rfl
set_option maxHeartbeats 1000000 in
set_option maxRecDepth 20000 in
theorem hX_9 (ct : Nat → ClassId) (h o1 o3 o5 o7 o9 o11 : Nat) (f2 f4 f6 f8 f10 f12 : Nat → Nat) : (bigX ct h o1 o3 o5 o7 o9 o11 f2 f4 f6 f8 f10 f12)[48]? = some ((QX [h, o1, o3, o5, o7, o9, o11, f2 1, f2 6, f2 7, f2 8, f2 9, f4 2, f4 3, f4 4, f4 5, f4 6, f4 8, f6 3, f6 4, f6 10, f6 11, f6 12, f6 13, f8 4, f8 5, f8 6, f10 3, f10 4, f12 5, f12 6, f12 7, f12 8, f12 10, f2 2, f2 3, f2 4, f2 5, f6 5, f6 6, f6 7, f6 8, f6 9] [f2 2, f2 3, f2 4, f2 5, f6 5, f6 6, f6 7, f6 8, f6 9]) 9, cX ct (QX [h, o1, o3, o5, o7, o9, o11, f2 1, f2 6, f2 7, f2 8, f2 9, f4 2, f4 3, f4 4, f4 5, f4 6, f4 8, f6 3, f6 4, f6 10, f6 11, f6 12, f6 13, f8 4, f8 5, f8 6, f10 3, f10 4, f12 5, f12 6, f12 7, f12 8, f12 10, f2 2, f2 3, f2 4, f2 5, f6 5, f6 6, f6 7, f6 8, f6 9] [f2 2, f2 3, f2 4, f2 5, f6 5, f6 6, f6 7, f6 8, f6 9]) M0 9) := rfl
set_option maxHeartbeats 1000000 in
set_option maxRecDepth 20000 in
theorem hX_10 (ct : Nat → ClassId) (h o1 o3 o5 o7 o9 o11 : Nat) (f2 f4 f6 f8 f10 f12 : Nat → Nat) : (bigX ct h o1 o3 o5 o7 o9 o11 f2 f4 f6 f8 f10 f12)[49]? = some ((QX [h, o1, o3, o5, o7, o9, o11, f2 1, f2 6, f2 7, f2 8, f2 9, f4 2, f4 3, f4 4, f4 5, f4 6, f4 8, f6 3, f6 4, f6 10, f6 11, f6 12, f6 13, f8 4, f8 5, f8 6, f10 3, f10 4, f12 5, f12 6, f12 7, f12 8, f12 10, f2 2, f2 3, f2 4, f2 5, f6 5, f6 6, f6 7, f6 8, f6 9] [f2 2, f2 3, f2 4, f2 5, f6 5, f6 6, f6 7, f6 8, f6 9]) 10, cX ct (QX [h, o1, o3, o5, o7, o9, o11, f2 1, f2 6, f2 7, f2 8, f2 9, f4 2, f4 3, f4 4, f4 5, f4 6, f4 8, f6 3, f6 4, f6 10, f6 11, f6 12, f6 13, f8 4, f8 5, f8 6, f10 3, f10 4, f12 5, f12 6, f12 7, f12 8, f12 10, f2 2, f2 3, f2 4, f2 5, f6 5, f6 6, f6 7, f6 8, f6 9] [f2 2, f2 3, f2 4, f2 5, f6 5, f6 6, f6 7, f6 8, f6 9]) M0 10) := rfl
set_option maxHeartbeats 1000000 in
set_option maxRecDepth 20000 in
theorem hX_11 (ct : Nat → ClassId) (h o1 o3 o5 o7 o9 o11 : Nat) (f2 f4 f6 f8 f10 f12 : Nat → Nat) : (bigX ct h o1 o3 o5 o7 o9 o11 f2 f4 f6 f8 f10 f12)[50]? = some ((QX [h, o1, o3, o5, o7, o9, o11, f2 1, f2 6, f2 7, f2 8, f2 9, f4 2, f4 3, f4 4, f4 5, f4 6, f4 8, f6 3, f6 4, f6 10, f6 11, f6 12, f6 13, f8 4, f8 5, f8 6, f10 3, f10 4, f12 5, f12 6, f12 7, f12 8, f12 10, f2 2, f2 3, f2 4, f2 5, f6 5, f6 6, f6 7, f6 8, f6 9] [f2 2, f2 3, f2 4, f2 5, f6 5, f6 6, f6 7, f6 8, f6 9]) 11, cX ct (QX [h, o1, o3, o5, o7, o9, o11, f2 1, f2 6, f2 7, f2 8, f2 9, f4 2, f4 3, f4 4, f4 5, f4 6, f4 8, f6 3, f6 4, f6 10, f6 11, f6 12, f6 13, f8 4, f8 5, f8 6, f10 3, f10 4, f12 5, f12 6, f12 7, f12 8, f12 10, f2 2, f2 3, f2 4, f2 5, f6 5, f6 6, f6 7, f6 8, f6 9] [f2 2, f2 3, f2 4, f2 5, f6 5, f6 6, f6 7, f6 8, f6 9]) M0 11) := rfl
set_option maxHeartbeats 1000000 in
set_option maxRecDepth 20000 in
theorem hX_12 (ct : Nat → ClassId) (h o1 o3 o5 o7 o9 o11 : Nat) (f2 f4 f6 f8 f10 f12 : Nat → Nat) : (bigX ct h o1 o3 o5 o7 o9 o11 f2 f4 f6 f8 f10 f12)[52]? = some ((QX [h, o1, o3, o5, o7, o9, o11, f2 1, f2 6, f2 7, f2 8, f2 9, f4 2, f4 3, f4 4, f4 5, f4 6, f4 8, f6 3, f6 4, f6 10, f6 11, f6 12, f6 13, f8 4, f8 5, f8 6, f10 3, f10 4, f12 5, f12 6, f12 7, f12 8, f12 10, f2 2, f2 3, f2 4, f2 5, f6 5, f6 6, f6 7, f6 8, f6 9] [f2 2, f2 3, f2 4, f2 5, f6 5, f6 6, f6 7, f6 8, f6 9]) 12, cX ct (QX [h, o1, o3, o5, o7, o9, o11, f2 1, f2 6, f2 7, f2 8, f2 9, f4 2, f4 3, f4 4, f4 5, f4 6, f4 8, f6 3, f6 4, f6 10, f6 11, f6 12, f6 13, f8 4, f8 5, f8 6, f10 3, f10 4, f12 5, f12 6, f12 7, f12 8, f12 10, f2 2, f2 3, f2 4, f2 5, f6 5, f6 6, f6 7, f6 8, f6 9] [f2 2, f2 3, f2 4, f2 5, f6 5, f6 6, f6 7, f6 8, f6 9]) M0 12) := rfl
set_option maxHeartbeats 1000000 in
set_option maxRecDepth 20000 in
theorem hX_13 (ct : Nat → ClassId) (h o1 o3 o5 o7 o9 o11 : Nat) (f2 f4 f6 f8 f10 f12 : Nat → Nat) : (bigX ct h o1 o3 o5 o7 o9 o11 f2 f4 f6 f8 f10 f12)[53]? = some ((QX [h, o1, o3, o5, o7, o9, o11, f2 1, f2 6, f2 7, f2 8, f2 9, f4 2, f4 3, f4 4, f4 5, f4 6, f4 8, f6 3, f6 4, f6 10, f6 11, f6 12, f6 13, f8 4, f8 5, f8 6, f10 3, f10 4, f12 5, f12 6, f12 7, f12 8, f12 10, f2 2, f2 3, f2 4, f2 5, f6 5, f6 6, f6 7, f6 8, f6 9] [f2 2, f2 3, f2 4, f2 5, f6 5, f6 6, f6 7, f6 8, f6 9]) 13, cX ct (QX [h, o1, o3, o5, o7, o9, o11, f2 1, f2 6, f2 7, f2 8, f2 9, f4 2, f4 3, f4 4, f4 5, f4 6, f4 8, f6 3, f6 4, f6 10, f6 11, f6 12, f6 13, f8 4, f8 5, f8 6, f10 3, f10 4, f12 5, f12 6, f12 7, f12 8, f12 10, f2 2, f2 3, f2 4, f2 5, f6 5, f6 6, f6 7, f6 8, f6 9] [f2 2, f2 3, f2 4, f2 5, f6 5, f6 6, f6 7, f6 8, f6 9]) M0 13) := rfl
set_option maxHeartbeats 1000000 in
set_option maxRecDepth 20000 in
theorem hX_14 (ct : Nat → ClassId) (h o1 o3 o5 o7 o9 o11 : Nat) (f2 f4 f6 f8 f10 f12 : Nat → Nat) : (bigX ct h o1 o3 o5 o7 o9 o11 f2 f4 f6 f8 f10 f12)[54]? = some ((QX [h, o1, o3, o5, o7, o9, o11, f2 1, f2 6, f2 7, f2 8, f2 9, f4 2, f4 3, f4 4, f4 5, f4 6, f4 8, f6 3, f6 4, f6 10, f6 11, f6 12, f6 13, f8 4, f8 5, f8 6, f10 3, f10 4, f12 5, f12 6, f12 7, f12 8, f12 10, f2 2, f2 3, f2 4, f2 5, f6 5, f6 6, f6 7, f6 8, f6 9] [f2 2, f2 3, f2 4, f2 5, f6 5, f6 6, f6 7, f6 8, f6 9]) 14, cX ct (QX [h, o1, o3, o5, o7, o9, o11, f2 1, f2 6, f2 7, f2 8, f2 9, f4 2, f4 3, f4 4, f4 5, f4 6, f4 8, f6 3, f6 4, f6 10, f6 11, f6 12, f6 13, f8 4, f8 5, f8 6, f10 3, f10 4, f12 5, f12 6, f12 7, f12 8, f12 10, f2 2, f2 3, f2 4, f2 5, f6 5, f6 6, f6 7, f6 8, f6 9] [f2 2, f2 3, f2 4, f2 5, f6 5, f6 6, f6 7, f6 8, f6 9]) M0 14) := rfl
set_option maxHeartbeats 1000000 in
set_option maxRecDepth 20000 in
theorem hX_15 (ct : Nat → ClassId) (h o1 o3 o5 o7 o9 o11 : Nat) (f2 f4 f6 f8 f10 f12 : Nat → Nat) : (bigX ct h o1 o3 o5 o7 o9 o11 f2 f4 f6 f8 f10 f12)[55]? = some ((QX [h, o1, o3, o5, o7, o9, o11, f2 1, f2 6, f2 7, f2 8, f2 9, f4 2, f4 3, f4 4, f4 5, f4 6, f4 8, f6 3, f6 4, f6 10, f6 11, f6 12, f6 13, f8 4, f8 5, f8 6, f10 3, f10 4, f12 5, f12 6, f12 7, f12 8, f12 10, f2 2, f2 3, f2 4, f2 5, f6 5, f6 6, f6 7, f6 8, f6 9] [f2 2, f2 3, f2 4, f2 5, f6 5, f6 6, f6 7, f6 8, f6 9]) 15, cX ct (QX [h, o1, o3, o5, o7, o9, o11, f2 1, f2 6, f2 7, f2 8, f2 9, f4 2, f4 3, f4 4, f4 5, f4 6, f4 8, f6 3, f6 4, f6 10, f6 11, f6 12, f6 13, f8 4, f8 5, f8 6, f10 3, f10 4, f12 5, f12 6, f12 7, f12 8, f12 10, f2 2, f2 3, f2 4, f2 5, f6 5, f6 6, f6 7, f6 8, f6 9] [f2 2, f2 3, f2 4, f2 5, f6 5, f6 6, f6 7, f6 8, f6 9]) M0 15) := rfl
set_option maxHeartbeats 1000000 in
set_option maxRecDepth 20000 in
theorem hX_16 (ct : Nat → ClassId) (h o1 o3 o5 o7 o9 o11 : Nat) (f2 f4 f6 f8 f10 f12 : Nat → Nat) : (bigX ct h o1 o3 o5 o7 o9 o11 f2 f4 f6 f8 f10 f12)[56]? = some ((QX [h, o1, o3, o5, o7, o9, o11, f2 1, f2 6, f2 7, f2 8, f2 9, f4 2, f4 3, f4 4, f4 5, f4 6, f4 8, f6 3, f6 4, f6 10, f6 11, f6 12, f6 13, f8 4, f8 5, f8 6, f10 3, f10 4, f12 5, f12 6, f12 7, f12 8, f12 10, f2 2, f2 3, f2 4, f2 5, f6 5, f6 6, f6 7, f6 8, f6 9] [f2 2, f2 3, f2 4, f2 5, f6 5, f6 6, f6 7, f6 8, f6 9]) 16, cX ct (QX [h, o1, o3, o5, o7, o9, o11, f2 1, f2 6, f2 7, f2 8, f2 9, f4 2, f4 3, f4 4, f4 5, f4 6, f4 8, f6 3, f6 4, f6 10, f6 11, f6 12, f6 13, f8 4, f8 5, f8 6, f10 3, f10 4, f12 5, f12 6, f12 7, f12 8, f12 10, f2 2, f2 3, f2 4, f2 5, f6 5, f6 6, f6 7, f6 8, f6 9] [f2 2, f2 3, f2 4, f2 5, f6 5, f6 6, f6 7, f6 8, f6 9]) M0 16) := rfl
set_option maxHeartbeats 1000000 in
set_option maxRecDepth 20000 in
theorem hX_17 (ct : Nat → ClassId) (h o1 o3 o5 o7 o9 o11 : Nat) (f2 f4 f6 f8 f10 f12 : Nat → Nat) : (bigX ct h o1 o3 o5 o7 o9 o11 f2 f4 f6 f8 f10 f12)[57]? = some ((QX [h, o1, o3, o5, o7, o9, o11, f2 1, f2 6, f2 7, f2 8, f2 9, f4 2, f4 3, f4 4, f4 5, f4 6, f4 8, f6 3, f6 4, f6 10, f6 11, f6 12, f6 13, f8 4, f8 5, f8 6, f10 3, f10 4, f12 5, f12 6, f12 7, f12 8, f12 10, f2 2, f2 3, f2 4, f2 5, f6 5, f6 6, f6 7, f6 8, f6 9] [f2 2, f2 3, f2 4, f2 5, f6 5, f6 6, f6 7, f6 8, f6 9]) 17, cX ct (QX [h, o1, o3, o5, o7, o9, o11, f2 1, f2 6, f2 7, f2 8, f2 9, f4 2, f4 3, f4 4, f4 5, f4 6, f4 8, f6 3, f6 4, f6 10, f6 11, f6 12, f6 13, f8 4, f8 5, f8 6, f10 3, f10 4, f12 5, f12 6, f12 7, f12 8, f12 10, f2 2, f2 3, f2 4, f2 5, f6 5, f6 6, f6 7, f6 8, f6 9] [f2 2, f2 3, f2 4, f2 5, f6 5, f6 6, f6 7, f6 8, f6 9]) M0 17) := rfl
set_option maxHeartbeats 1000000 in
set_option maxRecDepth 20000 in
theorem hX_18 (ct : Nat → ClassId) (h o1 o3 o5 o7 o9 o11 : Nat) (f2 f4 f6 f8 f10 f12 : Nat → Nat) : (bigX ct h o1 o3 o5 o7 o9 o11 f2 f4 f6 f8 f10 f12)[59]? = some ((QX [h, o1, o3, o5, o7, o9, o11, f2 1, f2 6, f2 7, f2 8, f2 9, f4 2, f4 3, f4 4, f4 5, f4 6, f4 8, f6 3, f6 4, f6 10, f6 11, f6 12, f6 13, f8 4, f8 5, f8 6, f10 3, f10 4, f12 5, f12 6, f12 7, f12 8, f12 10, f2 2, f2 3, f2 4, f2 5, f6 5, f6 6, f6 7, f6 8, f6 9] [f2 2, f2 3, f2 4, f2 5, f6 5, f6 6, f6 7, f6 8, f6 9]) 18, cX ct (QX [h, o1, o3, o5, o7, o9, o11, f2 1, f2 6, f2 7, f2 8, f2 9, f4 2, f4 3, f4 4, f4 5, f4 6, f4 8, f6 3, f6 4, f6 10, f6 11, f6 12, f6 13, f8 4, f8 5, f8 6, f10 3, f10 4, f12 5, f12 6, f12 7, f12 8, f12 10, f2 2, f2 3, f2 4, f2 5, f6 5, f6 6, f6 7, f6 8, f6 9] [f2 2, f2 3, f2 4, f2 5, f6 5, f6 6, f6 7, f6 8, f6 9]) M0 18) := rfl
set_option maxHeartbeats 1000000 in
set_option maxRecDepth 20000 in
theorem hX_19 (ct : Nat → ClassId) (h o1 o3 o5 o7 o9 o11 : Nat) (f2 f4 f6 f8 f10 f12 : Nat → Nat) : (bigX ct h o1 o3 o5 o7 o9 o11 f2 f4 f6 f8 f10 f12)[60]? = some ((QX [h, o1, o3, o5, o7, o9, o11, f2 1, f2 6, f2 7, f2 8, f2 9, f4 2, f4 3, f4 4, f4 5, f4 6, f4 8, f6 3, f6 4, f6 10, f6 11, f6 12, f6 13, f8 4, f8 5, f8 6, f10 3, f10 4, f12 5, f12 6, f12 7, f12 8, f12 10, f2 2, f2 3, f2 4, f2 5, f6 5, f6 6, f6 7, f6 8, f6 9] [f2 2, f2 3, f2 4, f2 5, f6 5, f6 6, f6 7, f6 8, f6 9]) 19, cX ct (QX [h, o1, o3, o5, o7, o9, o11, f2 1, f2 6, f2 7, f2 8, f2 9, f4 2, f4 3, f4 4, f4 5, f4 6, f4 8, f6 3, f6 4, f6 10, f6 11, f6 12, f6 13, f8 4, f8 5, f8 6, f10 3, f10 4, f12 5, f12 6, f12 7, f12 8, f12 10, f2 2, f2 3, f2 4, f2 5, f6 5, f6 6, f6 7, f6 8, f6 9] [f2 2, f2 3, f2 4, f2 5, f6 5, f6 6, f6 7, f6 8, f6 9]) M0 19) := rfl
set_option maxHeartbeats 1000000 in
set_option maxRecDepth 20000 in
theorem hX_20 (ct : Nat → ClassId) (h o1 o3 o5 o7 o9 o11 : Nat) (f2 f4 f6 f8 f10 f12 : Nat → Nat) : (bigX ct h o1 o3 o5 o7 o9 o11 f2 f4 f6 f8 f10 f12)[116]? = some ((QX [h, o1, o3, o5, o7, o9, o11, f2 1, f2 6, f2 7, f2 8, f2 9, f4 2, f4 3, f4 4, f4 5, f4 6, f4 8, f6 3, f6 4, f6 10, f6 11, f6 12, f6 13, f8 4, f8 5, f8 6, f10 3, f10 4, f12 5, f12 6, f12 7, f12 8, f12 10, f2 2, f2 3, f2 4, f2 5, f6 5, f6 6, f6 7, f6 8, f6 9] [f2 2, f2 3, f2 4, f2 5, f6 5, f6 6, f6 7, f6 8, f6 9]) 20, cX ct (QX [h, o1, o3, o5, o7, o9, o11, f2 1, f2 6, f2 7, f2 8, f2 9, f4 2, f4 3, f4 4, f4 5, f4 6, f4 8, f6 3, f6 4, f6 10, f6 11, f6 12, f6 13, f8 4, f8 5, f8 6, f10 3, f10 4, f12 5, f12 6, f12 7, f12 8, f12 10, f2 2, f2 3, f2 4, f2 5, f6 5, f6 6, f6 7, f6 8, f6 9] [f2 2, f2 3, f2 4, f2 5, f6 5, f6 6, f6 7, f6 8, f6 9]) M0 20) := rfl
set_option maxHeartbeats 1000000 in
set_option maxRecDepth 20000 in
theorem hX_21 (ct : Nat → ClassId) (h o1 o3 o5 o7 o9 o11 : Nat) (f2 f4 f6 f8 f10 f12 : Nat → Nat) : (bigX ct h o1 o3 o5 o7 o9 o11 f2 f4 f6 f8 f10 f12)[117]? = some ((QX [h, o1, o3, o5, o7, o9, o11, f2 1, f2 6, f2 7, f2 8, f2 9, f4 2, f4 3, f4 4, f4 5, f4 6, f4 8, f6 3, f6 4, f6 10, f6 11, f6 12, f6 13, f8 4, f8 5, f8 6, f10 3, f10 4, f12 5, f12 6, f12 7, f12 8, f12 10, f2 2, f2 3, f2 4, f2 5, f6 5, f6 6, f6 7, f6 8, f6 9] [f2 2, f2 3, f2 4, f2 5, f6 5, f6 6, f6 7, f6 8, f6 9]) 21, cX ct (QX [h, o1, o3, o5, o7, o9, o11, f2 1, f2 6, f2 7, f2 8, f2 9, f4 2, f4 3, f4 4, f4 5, f4 6, f4 8, f6 3, f6 4, f6 10, f6 11, f6 12, f6 13, f8 4, f8 5, f8 6, f10 3, f10 4, f12 5, f12 6, f12 7, f12 8, f12 10, f2 2, f2 3, f2 4, f2 5, f6 5, f6 6, f6 7, f6 8, f6 9] [f2 2, f2 3, f2 4, f2 5, f6 5, f6 6, f6 7, f6 8, f6 9]) M0 21) := rfl
set_option maxHeartbeats 1000000 in
set_option maxRecDepth 20000 in
theorem hX_22 (ct : Nat → ClassId) (h o1 o3 o5 o7 o9 o11 : Nat) (f2 f4 f6 f8 f10 f12 : Nat → Nat) : (bigX ct h o1 o3 o5 o7 o9 o11 f2 f4 f6 f8 f10 f12)[118]? = some ((QX [h, o1, o3, o5, o7, o9, o11, f2 1, f2 6, f2 7, f2 8, f2 9, f4 2, f4 3, f4 4, f4 5, f4 6, f4 8, f6 3, f6 4, f6 10, f6 11, f6 12, f6 13, f8 4, f8 5, f8 6, f10 3, f10 4, f12 5, f12 6, f12 7, f12 8, f12 10, f2 2, f2 3, f2 4, f2 5, f6 5, f6 6, f6 7, f6 8, f6 9] [f2 2, f2 3, f2 4, f2 5, f6 5, f6 6, f6 7, f6 8, f6 9]) 22, cX ct (QX [h, o1, o3, o5, o7, o9, o11, f2 1, f2 6, f2 7, f2 8, f2 9, f4 2, f4 3, f4 4, f4 5, f4 6, f4 8, f6 3, f6 4, f6 10, f6 11, f6 12, f6 13, f8 4, f8 5, f8 6, f10 3, f10 4, f12 5, f12 6, f12 7, f12 8, f12 10, f2 2, f2 3, f2 4, f2 5, f6 5, f6 6, f6 7, f6 8, f6 9] [f2 2, f2 3, f2 4, f2 5, f6 5, f6 6, f6 7, f6 8, f6 9]) M0 22) := rfl
set_option maxHeartbeats 1000000 in
set_option maxRecDepth 20000 in
theorem hX_23 (ct : Nat → ClassId) (h o1 o3 o5 o7 o9 o11 : Nat) (f2 f4 f6 f8 f10 f12 : Nat → Nat) : (bigX ct h o1 o3 o5 o7 o9 o11 f2 f4 f6 f8 f10 f12)[119]? = some ((QX [h, o1, o3, o5, o7, o9, o11, f2 1, f2 6, f2 7, f2 8, f2 9, f4 2, f4 3, f4 4, f4 5, f4 6, f4 8, f6 3, f6 4, f6 10, f6 11, f6 12, f6 13, f8 4, f8 5, f8 6, f10 3, f10 4, f12 5, f12 6, f12 7, f12 8, f12 10, f2 2, f2 3, f2 4, f2 5, f6 5, f6 6, f6 7, f6 8, f6 9] [f2 2, f2 3, f2 4, f2 5, f6 5, f6 6, f6 7, f6 8, f6 9]) 23, cX ct (QX [h, o1, o3, o5, o7, o9, o11, f2 1, f2 6, f2 7, f2 8, f2 9, f4 2, f4 3, f4 4, f4 5, f4 6, f4 8, f6 3, f6 4, f6 10, f6 11, f6 12, f6 13, f8 4, f8 5, f8 6, f10 3, f10 4, f12 5, f12 6, f12 7, f12 8, f12 10, f2 2, f2 3, f2 4, f2 5, f6 5, f6 6, f6 7, f6 8, f6 9] [f2 2, f2 3, f2 4, f2 5, f6 5, f6 6, f6 7, f6 8, f6 9]) M0 23) := rfl
set_option maxHeartbeats 1000000 in
set_option maxRecDepth 20000 in
theorem hX_24 (ct : Nat → ClassId) (h o1 o3 o5 o7 o9 o11 : Nat) (f2 f4 f6 f8 f10 f12 : Nat → Nat) : (bigX ct h o1 o3 o5 o7 o9 o11 f2 f4 f6 f8 f10 f12)[121]? = some ((QX [h, o1, o3, o5, o7, o9, o11, f2 1, f2 6, f2 7, f2 8, f2 9, f4 2, f4 3, f4 4, f4 5, f4 6, f4 8, f6 3, f6 4, f6 10, f6 11, f6 12, f6 13, f8 4, f8 5, f8 6, f10 3, f10 4, f12 5, f12 6, f12 7, f12 8, f12 10, f2 2, f2 3, f2 4, f2 5, f6 5, f6 6, f6 7, f6 8, f6 9] [f2 2, f2 3, f2 4, f2 5, f6 5, f6 6, f6 7, f6 8, f6 9]) 24, cX ct (QX [h, o1, o3, o5, o7, o9, o11, f2 1, f2 6, f2 7, f2 8, f2 9, f4 2, f4 3, f4 4, f4 5, f4 6, f4 8, f6 3, f6 4, f6 10, f6 11, f6 12, f6 13, f8 4, f8 5, f8 6, f10 3, f10 4, f12 5, f12 6, f12 7, f12 8, f12 10, f2 2, f2 3, f2 4, f2 5, f6 5, f6 6, f6 7, f6 8, f6 9] [f2 2, f2 3, f2 4, f2 5, f6 5, f6 6, f6 7, f6 8, f6 9]) M0 24) := rfl
set_option maxHeartbeats 1000000 in
set_option maxRecDepth 20000 in
theorem hX_25 (ct : Nat → ClassId) (h o1 o3 o5 o7 o9 o11 : Nat) (f2 f4 f6 f8 f10 f12 : Nat → Nat) : (bigX ct h o1 o3 o5 o7 o9 o11 f2 f4 f6 f8 f10 f12)[122]? = some ((QX [h, o1, o3, o5, o7, o9, o11, f2 1, f2 6, f2 7, f2 8, f2 9, f4 2, f4 3, f4 4, f4 5, f4 6, f4 8, f6 3, f6 4, f6 10, f6 11, f6 12, f6 13, f8 4, f8 5, f8 6, f10 3, f10 4, f12 5, f12 6, f12 7, f12 8, f12 10, f2 2, f2 3, f2 4, f2 5, f6 5, f6 6, f6 7, f6 8, f6 9] [f2 2, f2 3, f2 4, f2 5, f6 5, f6 6, f6 7, f6 8, f6 9]) 25, cX ct (QX [h, o1, o3, o5, o7, o9, o11, f2 1, f2 6, f2 7, f2 8, f2 9, f4 2, f4 3, f4 4, f4 5, f4 6, f4 8, f6 3, f6 4, f6 10, f6 11, f6 12, f6 13, f8 4, f8 5, f8 6, f10 3, f10 4, f12 5, f12 6, f12 7, f12 8, f12 10, f2 2, f2 3, f2 4, f2 5, f6 5, f6 6, f6 7, f6 8, f6 9] [f2 2, f2 3, f2 4, f2 5, f6 5, f6 6, f6 7, f6 8, f6 9]) M0 25) := rfl
set_option maxHeartbeats 1000000 in
set_option maxRecDepth 20000 in
theorem hX_26 (ct : Nat → ClassId) (h o1 o3 o5 o7 o9 o11 : Nat) (f2 f4 f6 f8 f10 f12 : Nat → Nat) : (bigX ct h o1 o3 o5 o7 o9 o11 f2 f4 f6 f8 f10 f12)[123]? = some ((QX [h, o1, o3, o5, o7, o9, o11, f2 1, f2 6, f2 7, f2 8, f2 9, f4 2, f4 3, f4 4, f4 5, f4 6, f4 8, f6 3, f6 4, f6 10, f6 11, f6 12, f6 13, f8 4, f8 5, f8 6, f10 3, f10 4, f12 5, f12 6, f12 7, f12 8, f12 10, f2 2, f2 3, f2 4, f2 5, f6 5, f6 6, f6 7, f6 8, f6 9] [f2 2, f2 3, f2 4, f2 5, f6 5, f6 6, f6 7, f6 8, f6 9]) 26, cX ct (QX [h, o1, o3, o5, o7, o9, o11, f2 1, f2 6, f2 7, f2 8, f2 9, f4 2, f4 3, f4 4, f4 5, f4 6, f4 8, f6 3, f6 4, f6 10, f6 11, f6 12, f6 13, f8 4, f8 5, f8 6, f10 3, f10 4, f12 5, f12 6, f12 7, f12 8, f12 10, f2 2, f2 3, f2 4, f2 5, f6 5, f6 6, f6 7, f6 8, f6 9] [f2 2, f2 3, f2 4, f2 5, f6 5, f6 6, f6 7, f6 8, f6 9]) M0 26) := rfl
set_option maxHeartbeats 1000000 in
set_option maxRecDepth 20000 in
theorem hX_27 (ct : Nat → ClassId) (h o1 o3 o5 o7 o9 o11 : Nat) (f2 f4 f6 f8 f10 f12 : Nat → Nat) : (bigX ct h o1 o3 o5 o7 o9 o11 f2 f4 f6 f8 f10 f12)[125]? = some ((QX [h, o1, o3, o5, o7, o9, o11, f2 1, f2 6, f2 7, f2 8, f2 9, f4 2, f4 3, f4 4, f4 5, f4 6, f4 8, f6 3, f6 4, f6 10, f6 11, f6 12, f6 13, f8 4, f8 5, f8 6, f10 3, f10 4, f12 5, f12 6, f12 7, f12 8, f12 10, f2 2, f2 3, f2 4, f2 5, f6 5, f6 6, f6 7, f6 8, f6 9] [f2 2, f2 3, f2 4, f2 5, f6 5, f6 6, f6 7, f6 8, f6 9]) 27, cX ct (QX [h, o1, o3, o5, o7, o9, o11, f2 1, f2 6, f2 7, f2 8, f2 9, f4 2, f4 3, f4 4, f4 5, f4 6, f4 8, f6 3, f6 4, f6 10, f6 11, f6 12, f6 13, f8 4, f8 5, f8 6, f10 3, f10 4, f12 5, f12 6, f12 7, f12 8, f12 10, f2 2, f2 3, f2 4, f2 5, f6 5, f6 6, f6 7, f6 8, f6 9] [f2 2, f2 3, f2 4, f2 5, f6 5, f6 6, f6 7, f6 8, f6 9]) M0 27) := rfl
set_option maxHeartbeats 1000000 in
set_option maxRecDepth 20000 in
theorem hX_28 (ct : Nat → ClassId) (h o1 o3 o5 o7 o9 o11 : Nat) (f2 f4 f6 f8 f10 f12 : Nat → Nat) : (bigX ct h o1 o3 o5 o7 o9 o11 f2 f4 f6 f8 f10 f12)[126]? = some ((QX [h, o1, o3, o5, o7, o9, o11, f2 1, f2 6, f2 7, f2 8, f2 9, f4 2, f4 3, f4 4, f4 5, f4 6, f4 8, f6 3, f6 4, f6 10, f6 11, f6 12, f6 13, f8 4, f8 5, f8 6, f10 3, f10 4, f12 5, f12 6, f12 7, f12 8, f12 10, f2 2, f2 3, f2 4, f2 5, f6 5, f6 6, f6 7, f6 8, f6 9] [f2 2, f2 3, f2 4, f2 5, f6 5, f6 6, f6 7, f6 8, f6 9]) 28, cX ct (QX [h, o1, o3, o5, o7, o9, o11, f2 1, f2 6, f2 7, f2 8, f2 9, f4 2, f4 3, f4 4, f4 5, f4 6, f4 8, f6 3, f6 4, f6 10, f6 11, f6 12, f6 13, f8 4, f8 5, f8 6, f10 3, f10 4, f12 5, f12 6, f12 7, f12 8, f12 10, f2 2, f2 3, f2 4, f2 5, f6 5, f6 6, f6 7, f6 8, f6 9] [f2 2, f2 3, f2 4, f2 5, f6 5, f6 6, f6 7, f6 8, f6 9]) M0 28) := rfl
set_option maxHeartbeats 1000000 in
set_option maxRecDepth 20000 in
theorem hX_29 (ct : Nat → ClassId) (h o1 o3 o5 o7 o9 o11 : Nat) (f2 f4 f6 f8 f10 f12 : Nat → Nat) : (bigX ct h o1 o3 o5 o7 o9 o11 f2 f4 f6 f8 f10 f12)[128]? = some ((QX [h, o1, o3, o5, o7, o9, o11, f2 1, f2 6, f2 7, f2 8, f2 9, f4 2, f4 3, f4 4, f4 5, f4 6, f4 8, f6 3, f6 4, f6 10, f6 11, f6 12, f6 13, f8 4, f8 5, f8 6, f10 3, f10 4, f12 5, f12 6, f12 7, f12 8, f12 10, f2 2, f2 3, f2 4, f2 5, f6 5, f6 6, f6 7, f6 8, f6 9] [f2 2, f2 3, f2 4, f2 5, f6 5, f6 6, f6 7, f6 8, f6 9]) 29, cX ct (QX [h, o1, o3, o5, o7, o9, o11, f2 1, f2 6, f2 7, f2 8, f2 9, f4 2, f4 3, f4 4, f4 5, f4 6, f4 8, f6 3, f6 4, f6 10, f6 11, f6 12, f6 13, f8 4, f8 5, f8 6, f10 3, f10 4, f12 5, f12 6, f12 7, f12 8, f12 10, f2 2, f2 3, f2 4, f2 5, f6 5, f6 6, f6 7, f6 8, f6 9] [f2 2, f2 3, f2 4, f2 5, f6 5, f6 6, f6 7, f6 8, f6 9]) M0 29) := rfl
set_option maxHeartbeats 1000000 in
set_option maxRecDepth 20000 in
theorem hX_30 (ct : Nat → ClassId) (h o1 o3 o5 o7 o9 o11 : Nat) (f2 f4 f6 f8 f10 f12 : Nat → Nat) : (bigX ct h o1 o3 o5 o7 o9 o11 f2 f4 f6 f8 f10 f12)[129]? = some ((QX [h, o1, o3, o5, o7, o9, o11, f2 1, f2 6, f2 7, f2 8, f2 9, f4 2, f4 3, f4 4, f4 5, f4 6, f4 8, f6 3, f6 4, f6 10, f6 11, f6 12, f6 13, f8 4, f8 5, f8 6, f10 3, f10 4, f12 5, f12 6, f12 7, f12 8, f12 10, f2 2, f2 3, f2 4, f2 5, f6 5, f6 6, f6 7, f6 8, f6 9] [f2 2, f2 3, f2 4, f2 5, f6 5, f6 6, f6 7, f6 8, f6 9]) 30, cX ct (QX [h, o1, o3, o5, o7, o9, o11, f2 1, f2 6, f2 7, f2 8, f2 9, f4 2, f4 3, f4 4, f4 5, f4 6, f4 8, f6 3, f6 4, f6 10, f6 11, f6 12, f6 13, f8 4, f8 5, f8 6, f10 3, f10 4, f12 5, f12 6, f12 7, f12 8, f12 10, f2 2, f2 3, f2 4, f2 5, f6 5, f6 6, f6 7, f6 8, f6 9] [f2 2, f2 3, f2 4, f2 5, f6 5, f6 6, f6 7, f6 8, f6 9]) M0 30) := rfl
set_option maxHeartbeats 1000000 in
set_option maxRecDepth 20000 in
theorem hX_31 (ct : Nat → ClassId) (h o1 o3 o5 o7 o9 o11 : Nat) (f2 f4 f6 f8 f10 f12 : Nat → Nat) : (bigX ct h o1 o3 o5 o7 o9 o11 f2 f4 f6 f8 f10 f12)[130]? = some ((QX [h, o1, o3, o5, o7, o9, o11, f2 1, f2 6, f2 7, f2 8, f2 9, f4 2, f4 3, f4 4, f4 5, f4 6, f4 8, f6 3, f6 4, f6 10, f6 11, f6 12, f6 13, f8 4, f8 5, f8 6, f10 3, f10 4, f12 5, f12 6, f12 7, f12 8, f12 10, f2 2, f2 3, f2 4, f2 5, f6 5, f6 6, f6 7, f6 8, f6 9] [f2 2, f2 3, f2 4, f2 5, f6 5, f6 6, f6 7, f6 8, f6 9]) 31, cX ct (QX [h, o1, o3, o5, o7, o9, o11, f2 1, f2 6, f2 7, f2 8, f2 9, f4 2, f4 3, f4 4, f4 5, f4 6, f4 8, f6 3, f6 4, f6 10, f6 11, f6 12, f6 13, f8 4, f8 5, f8 6, f10 3, f10 4, f12 5, f12 6, f12 7, f12 8, f12 10, f2 2, f2 3, f2 4, f2 5, f6 5, f6 6, f6 7, f6 8, f6 9] [f2 2, f2 3, f2 4, f2 5, f6 5, f6 6, f6 7, f6 8, f6 9]) M0 31) := rfl
set_option maxHeartbeats 1000000 in
set_option maxRecDepth 20000 in
theorem hX_32 (ct : Nat → ClassId) (h o1 o3 o5 o7 o9 o11 : Nat) (f2 f4 f6 f8 f10 f12 : Nat → Nat) : (bigX ct h o1 o3 o5 o7 o9 o11 f2 f4 f6 f8 f10 f12)[131]? = some ((QX [h, o1, o3, o5, o7, o9, o11, f2 1, f2 6, f2 7, f2 8, f2 9, f4 2, f4 3, f4 4, f4 5, f4 6, f4 8, f6 3, f6 4, f6 10, f6 11, f6 12, f6 13, f8 4, f8 5, f8 6, f10 3, f10 4, f12 5, f12 6, f12 7, f12 8, f12 10, f2 2, f2 3, f2 4, f2 5, f6 5, f6 6, f6 7, f6 8, f6 9] [f2 2, f2 3, f2 4, f2 5, f6 5, f6 6, f6 7, f6 8, f6 9]) 32, cX ct (QX [h, o1, o3, o5, o7, o9, o11, f2 1, f2 6, f2 7, f2 8, f2 9, f4 2, f4 3, f4 4, f4 5, f4 6, f4 8, f6 3, f6 4, f6 10, f6 11, f6 12, f6 13, f8 4, f8 5, f8 6, f10 3, f10 4, f12 5, f12 6, f12 7, f12 8, f12 10, f2 2, f2 3, f2 4, f2 5, f6 5, f6 6, f6 7, f6 8, f6 9] [f2 2, f2 3, f2 4, f2 5, f6 5, f6 6, f6 7, f6 8, f6 9]) M0 32) := rfl
set_option maxHeartbeats 1000000 in
set_option maxRecDepth 20000 in
theorem hX_33 (ct : Nat → ClassId) (h o1 o3 o5 o7 o9 o11 : Nat) (f2 f4 f6 f8 f10 f12 : Nat → Nat) : (bigX ct h o1 o3 o5 o7 o9 o11 f2 f4 f6 f8 f10 f12)[132]? = some ((QX [h, o1, o3, o5, o7, o9, o11, f2 1, f2 6, f2 7, f2 8, f2 9, f4 2, f4 3, f4 4, f4 5, f4 6, f4 8, f6 3, f6 4, f6 10, f6 11, f6 12, f6 13, f8 4, f8 5, f8 6, f10 3, f10 4, f12 5, f12 6, f12 7, f12 8, f12 10, f2 2, f2 3, f2 4, f2 5, f6 5, f6 6, f6 7, f6 8, f6 9] [f2 2, f2 3, f2 4, f2 5, f6 5, f6 6, f6 7, f6 8, f6 9]) 33, cX ct (QX [h, o1, o3, o5, o7, o9, o11, f2 1, f2 6, f2 7, f2 8, f2 9, f4 2, f4 3, f4 4, f4 5, f4 6, f4 8, f6 3, f6 4, f6 10, f6 11, f6 12, f6 13, f8 4, f8 5, f8 6, f10 3, f10 4, f12 5, f12 6, f12 7, f12 8, f12 10, f2 2, f2 3, f2 4, f2 5, f6 5, f6 6, f6 7, f6 8, f6 9] [f2 2, f2 3, f2 4, f2 5, f6 5, f6 6, f6 7, f6 8, f6 9]) M0 33) := rfl
set_option maxHeartbeats 1000000 in
set_option maxRecDepth 20000 in
theorem hX_34 (ct : Nat → ClassId) (h o1 o3 o5 o7 o9 o11 : Nat) (f2 f4 f6 f8 f10 f12 : Nat → Nat) : (bigX ct h o1 o3 o5 o7 o9 o11 f2 f4 f6 f8 f10 f12)[3]? = some ((QX [h, o1, o3, o5, o7, o9, o11, f2 1, f2 6, f2 7, f2 8, f2 9, f4 2, f4 3, f4 4, f4 5, f4 6, f4 8, f6 3, f6 4, f6 10, f6 11, f6 12, f6 13, f8 4, f8 5, f8 6, f10 3, f10 4, f12 5, f12 6, f12 7, f12 8, f12 10, f2 2, f2 3, f2 4, f2 5, f6 5, f6 6, f6 7, f6 8, f6 9] [f2 2, f2 3, f2 4, f2 5, f6 5, f6 6, f6 7, f6 8, f6 9]) 34, cX ct (QX [h, o1, o3, o5, o7, o9, o11, f2 1, f2 6, f2 7, f2 8, f2 9, f4 2, f4 3, f4 4, f4 5, f4 6, f4 8, f6 3, f6 4, f6 10, f6 11, f6 12, f6 13, f8 4, f8 5, f8 6, f10 3, f10 4, f12 5, f12 6, f12 7, f12 8, f12 10, f2 2, f2 3, f2 4, f2 5, f6 5, f6 6, f6 7, f6 8, f6 9] [f2 2, f2 3, f2 4, f2 5, f6 5, f6 6, f6 7, f6 8, f6 9]) M0 34) := congrArg (fun z => (some (f2 2, (.inl (ct 3, 10, .inr (.inr (.inr (.inr z)))) : va_E)) : Option (Nat × va_E))) (QX_out [h, o1, o3, o5, o7, o9, o11, f2 1, f2 6, f2 7, f2 8, f2 9, f4 2, f4 3, f4 4, f4 5, f4 6, f4 8, f6 3, f6 4, f6 10, f6 11, f6 12, f6 13, f8 4, f8 5, f8 6, f10 3, f10 4, f12 5, f12 6, f12 7, f12 8, f12 10, f2 2, f2 3, f2 4, f2 5, f6 5, f6 6, f6 7, f6 8, f6 9] [f2 2, f2 3, f2 4, f2 5, f6 5, f6 6, f6 7, f6 8, f6 9] 0 (f2 2) rfl)
set_option maxHeartbeats 1000000 in
set_option maxRecDepth 20000 in
theorem hX_35 (ct : Nat → ClassId) (h o1 o3 o5 o7 o9 o11 : Nat) (f2 f4 f6 f8 f10 f12 : Nat → Nat) : (bigX ct h o1 o3 o5 o7 o9 o11 f2 f4 f6 f8 f10 f12)[14]? = some ((QX [h, o1, o3, o5, o7, o9, o11, f2 1, f2 6, f2 7, f2 8, f2 9, f4 2, f4 3, f4 4, f4 5, f4 6, f4 8, f6 3, f6 4, f6 10, f6 11, f6 12, f6 13, f8 4, f8 5, f8 6, f10 3, f10 4, f12 5, f12 6, f12 7, f12 8, f12 10, f2 2, f2 3, f2 4, f2 5, f6 5, f6 6, f6 7, f6 8, f6 9] [f2 2, f2 3, f2 4, f2 5, f6 5, f6 6, f6 7, f6 8, f6 9]) 35, cX ct (QX [h, o1, o3, o5, o7, o9, o11, f2 1, f2 6, f2 7, f2 8, f2 9, f4 2, f4 3, f4 4, f4 5, f4 6, f4 8, f6 3, f6 4, f6 10, f6 11, f6 12, f6 13, f8 4, f8 5, f8 6, f10 3, f10 4, f12 5, f12 6, f12 7, f12 8, f12 10, f2 2, f2 3, f2 4, f2 5, f6 5, f6 6, f6 7, f6 8, f6 9] [f2 2, f2 3, f2 4, f2 5, f6 5, f6 6, f6 7, f6 8, f6 9]) M0 35) := congrArg (fun z => (some (f2 3, (.inl (ct 3, 10, .inr (.inr (.inr (.inr z)))) : va_E)) : Option (Nat × va_E))) (QX_out [h, o1, o3, o5, o7, o9, o11, f2 1, f2 6, f2 7, f2 8, f2 9, f4 2, f4 3, f4 4, f4 5, f4 6, f4 8, f6 3, f6 4, f6 10, f6 11, f6 12, f6 13, f8 4, f8 5, f8 6, f10 3, f10 4, f12 5, f12 6, f12 7, f12 8, f12 10, f2 2, f2 3, f2 4, f2 5, f6 5, f6 6, f6 7, f6 8, f6 9] [f2 2, f2 3, f2 4, f2 5, f6 5, f6 6, f6 7, f6 8, f6 9] 1 (f2 3) rfl)
set_option maxHeartbeats 1000000 in
set_option maxRecDepth 20000 in
theorem hX_36 (ct : Nat → ClassId) (h o1 o3 o5 o7 o9 o11 : Nat) (f2 f4 f6 f8 f10 f12 : Nat → Nat) : (bigX ct h o1 o3 o5 o7 o9 o11 f2 f4 f6 f8 f10 f12)[25]? = some ((QX [h, o1, o3, o5, o7, o9, o11, f2 1, f2 6, f2 7, f2 8, f2 9, f4 2, f4 3, f4 4, f4 5, f4 6, f4 8, f6 3, f6 4, f6 10, f6 11, f6 12, f6 13, f8 4, f8 5, f8 6, f10 3, f10 4, f12 5, f12 6, f12 7, f12 8, f12 10, f2 2, f2 3, f2 4, f2 5, f6 5, f6 6, f6 7, f6 8, f6 9] [f2 2, f2 3, f2 4, f2 5, f6 5, f6 6, f6 7, f6 8, f6 9]) 36, cX ct (QX [h, o1, o3, o5, o7, o9, o11, f2 1, f2 6, f2 7, f2 8, f2 9, f4 2, f4 3, f4 4, f4 5, f4 6, f4 8, f6 3, f6 4, f6 10, f6 11, f6 12, f6 13, f8 4, f8 5, f8 6, f10 3, f10 4, f12 5, f12 6, f12 7, f12 8, f12 10, f2 2, f2 3, f2 4, f2 5, f6 5, f6 6, f6 7, f6 8, f6 9] [f2 2, f2 3, f2 4, f2 5, f6 5, f6 6, f6 7, f6 8, f6 9]) M0 36) := congrArg (fun z => (some (f2 4, (.inl (ct 3, 10, .inr (.inr (.inr (.inr z)))) : va_E)) : Option (Nat × va_E))) (QX_out [h, o1, o3, o5, o7, o9, o11, f2 1, f2 6, f2 7, f2 8, f2 9, f4 2, f4 3, f4 4, f4 5, f4 6, f4 8, f6 3, f6 4, f6 10, f6 11, f6 12, f6 13, f8 4, f8 5, f8 6, f10 3, f10 4, f12 5, f12 6, f12 7, f12 8, f12 10, f2 2, f2 3, f2 4, f2 5, f6 5, f6 6, f6 7, f6 8, f6 9] [f2 2, f2 3, f2 4, f2 5, f6 5, f6 6, f6 7, f6 8, f6 9] 2 (f2 4) rfl)
set_option maxHeartbeats 1000000 in
set_option maxRecDepth 20000 in
theorem hX_37 (ct : Nat → ClassId) (h o1 o3 o5 o7 o9 o11 : Nat) (f2 f4 f6 f8 f10 f12 : Nat → Nat) : (bigX ct h o1 o3 o5 o7 o9 o11 f2 f4 f6 f8 f10 f12)[36]? = some ((QX [h, o1, o3, o5, o7, o9, o11, f2 1, f2 6, f2 7, f2 8, f2 9, f4 2, f4 3, f4 4, f4 5, f4 6, f4 8, f6 3, f6 4, f6 10, f6 11, f6 12, f6 13, f8 4, f8 5, f8 6, f10 3, f10 4, f12 5, f12 6, f12 7, f12 8, f12 10, f2 2, f2 3, f2 4, f2 5, f6 5, f6 6, f6 7, f6 8, f6 9] [f2 2, f2 3, f2 4, f2 5, f6 5, f6 6, f6 7, f6 8, f6 9]) 37, cX ct (QX [h, o1, o3, o5, o7, o9, o11, f2 1, f2 6, f2 7, f2 8, f2 9, f4 2, f4 3, f4 4, f4 5, f4 6, f4 8, f6 3, f6 4, f6 10, f6 11, f6 12, f6 13, f8 4, f8 5, f8 6, f10 3, f10 4, f12 5, f12 6, f12 7, f12 8, f12 10, f2 2, f2 3, f2 4, f2 5, f6 5, f6 6, f6 7, f6 8, f6 9] [f2 2, f2 3, f2 4, f2 5, f6 5, f6 6, f6 7, f6 8, f6 9]) M0 37) := congrArg (fun z => (some (f2 5, (.inl (ct 3, 10, .inr (.inr (.inr (.inr z)))) : va_E)) : Option (Nat × va_E))) (QX_out [h, o1, o3, o5, o7, o9, o11, f2 1, f2 6, f2 7, f2 8, f2 9, f4 2, f4 3, f4 4, f4 5, f4 6, f4 8, f6 3, f6 4, f6 10, f6 11, f6 12, f6 13, f8 4, f8 5, f8 6, f10 3, f10 4, f12 5, f12 6, f12 7, f12 8, f12 10, f2 2, f2 3, f2 4, f2 5, f6 5, f6 6, f6 7, f6 8, f6 9] [f2 2, f2 3, f2 4, f2 5, f6 5, f6 6, f6 7, f6 8, f6 9] 3 (f2 5) rfl)
set_option maxHeartbeats 1000000 in
set_option maxRecDepth 20000 in
theorem hX_38 (ct : Nat → ClassId) (h o1 o3 o5 o7 o9 o11 : Nat) (f2 f4 f6 f8 f10 f12 : Nat → Nat) : (bigX ct h o1 o3 o5 o7 o9 o11 f2 f4 f6 f8 f10 f12)[61]? = some ((QX [h, o1, o3, o5, o7, o9, o11, f2 1, f2 6, f2 7, f2 8, f2 9, f4 2, f4 3, f4 4, f4 5, f4 6, f4 8, f6 3, f6 4, f6 10, f6 11, f6 12, f6 13, f8 4, f8 5, f8 6, f10 3, f10 4, f12 5, f12 6, f12 7, f12 8, f12 10, f2 2, f2 3, f2 4, f2 5, f6 5, f6 6, f6 7, f6 8, f6 9] [f2 2, f2 3, f2 4, f2 5, f6 5, f6 6, f6 7, f6 8, f6 9]) 38, cX ct (QX [h, o1, o3, o5, o7, o9, o11, f2 1, f2 6, f2 7, f2 8, f2 9, f4 2, f4 3, f4 4, f4 5, f4 6, f4 8, f6 3, f6 4, f6 10, f6 11, f6 12, f6 13, f8 4, f8 5, f8 6, f10 3, f10 4, f12 5, f12 6, f12 7, f12 8, f12 10, f2 2, f2 3, f2 4, f2 5, f6 5, f6 6, f6 7, f6 8, f6 9] [f2 2, f2 3, f2 4, f2 5, f6 5, f6 6, f6 7, f6 8, f6 9]) M0 38) := congrArg (fun z => (some (f6 5, (.inl (ct 3, 10, .inr (.inr (.inr (.inr z)))) : va_E)) : Option (Nat × va_E))) (QX_out [h, o1, o3, o5, o7, o9, o11, f2 1, f2 6, f2 7, f2 8, f2 9, f4 2, f4 3, f4 4, f4 5, f4 6, f4 8, f6 3, f6 4, f6 10, f6 11, f6 12, f6 13, f8 4, f8 5, f8 6, f10 3, f10 4, f12 5, f12 6, f12 7, f12 8, f12 10, f2 2, f2 3, f2 4, f2 5, f6 5, f6 6, f6 7, f6 8, f6 9] [f2 2, f2 3, f2 4, f2 5, f6 5, f6 6, f6 7, f6 8, f6 9] 4 (f6 5) rfl)
set_option maxHeartbeats 1000000 in
set_option maxRecDepth 20000 in
theorem hX_39 (ct : Nat → ClassId) (h o1 o3 o5 o7 o9 o11 : Nat) (f2 f4 f6 f8 f10 f12 : Nat → Nat) : (bigX ct h o1 o3 o5 o7 o9 o11 f2 f4 f6 f8 f10 f12)[72]? = some ((QX [h, o1, o3, o5, o7, o9, o11, f2 1, f2 6, f2 7, f2 8, f2 9, f4 2, f4 3, f4 4, f4 5, f4 6, f4 8, f6 3, f6 4, f6 10, f6 11, f6 12, f6 13, f8 4, f8 5, f8 6, f10 3, f10 4, f12 5, f12 6, f12 7, f12 8, f12 10, f2 2, f2 3, f2 4, f2 5, f6 5, f6 6, f6 7, f6 8, f6 9] [f2 2, f2 3, f2 4, f2 5, f6 5, f6 6, f6 7, f6 8, f6 9]) 39, cX ct (QX [h, o1, o3, o5, o7, o9, o11, f2 1, f2 6, f2 7, f2 8, f2 9, f4 2, f4 3, f4 4, f4 5, f4 6, f4 8, f6 3, f6 4, f6 10, f6 11, f6 12, f6 13, f8 4, f8 5, f8 6, f10 3, f10 4, f12 5, f12 6, f12 7, f12 8, f12 10, f2 2, f2 3, f2 4, f2 5, f6 5, f6 6, f6 7, f6 8, f6 9] [f2 2, f2 3, f2 4, f2 5, f6 5, f6 6, f6 7, f6 8, f6 9]) M0 39) := congrArg (fun z => (some (f6 6, (.inl (ct 3, 10, .inr (.inr (.inr (.inr z)))) : va_E)) : Option (Nat × va_E))) (QX_out [h, o1, o3, o5, o7, o9, o11, f2 1, f2 6, f2 7, f2 8, f2 9, f4 2, f4 3, f4 4, f4 5, f4 6, f4 8, f6 3, f6 4, f6 10, f6 11, f6 12, f6 13, f8 4, f8 5, f8 6, f10 3, f10 4, f12 5, f12 6, f12 7, f12 8, f12 10, f2 2, f2 3, f2 4, f2 5, f6 5, f6 6, f6 7, f6 8, f6 9] [f2 2, f2 3, f2 4, f2 5, f6 5, f6 6, f6 7, f6 8, f6 9] 5 (f6 6) rfl)
set_option maxHeartbeats 1000000 in
set_option maxRecDepth 20000 in
theorem hX_40 (ct : Nat → ClassId) (h o1 o3 o5 o7 o9 o11 : Nat) (f2 f4 f6 f8 f10 f12 : Nat → Nat) : (bigX ct h o1 o3 o5 o7 o9 o11 f2 f4 f6 f8 f10 f12)[83]? = some ((QX [h, o1, o3, o5, o7, o9, o11, f2 1, f2 6, f2 7, f2 8, f2 9, f4 2, f4 3, f4 4, f4 5, f4 6, f4 8, f6 3, f6 4, f6 10, f6 11, f6 12, f6 13, f8 4, f8 5, f8 6, f10 3, f10 4, f12 5, f12 6, f12 7, f12 8, f12 10, f2 2, f2 3, f2 4, f2 5, f6 5, f6 6, f6 7, f6 8, f6 9] [f2 2, f2 3, f2 4, f2 5, f6 5, f6 6, f6 7, f6 8, f6 9]) 40, cX ct (QX [h, o1, o3, o5, o7, o9, o11, f2 1, f2 6, f2 7, f2 8, f2 9, f4 2, f4 3, f4 4, f4 5, f4 6, f4 8, f6 3, f6 4, f6 10, f6 11, f6 12, f6 13, f8 4, f8 5, f8 6, f10 3, f10 4, f12 5, f12 6, f12 7, f12 8, f12 10, f2 2, f2 3, f2 4, f2 5, f6 5, f6 6, f6 7, f6 8, f6 9] [f2 2, f2 3, f2 4, f2 5, f6 5, f6 6, f6 7, f6 8, f6 9]) M0 40) := congrArg (fun z => (some (f6 7, (.inl (ct 3, 10, .inr (.inr (.inr (.inr z)))) : va_E)) : Option (Nat × va_E))) (QX_out [h, o1, o3, o5, o7, o9, o11, f2 1, f2 6, f2 7, f2 8, f2 9, f4 2, f4 3, f4 4, f4 5, f4 6, f4 8, f6 3, f6 4, f6 10, f6 11, f6 12, f6 13, f8 4, f8 5, f8 6, f10 3, f10 4, f12 5, f12 6, f12 7, f12 8, f12 10, f2 2, f2 3, f2 4, f2 5, f6 5, f6 6, f6 7, f6 8, f6 9] [f2 2, f2 3, f2 4, f2 5, f6 5, f6 6, f6 7, f6 8, f6 9] 6 (f6 7) rfl)
set_option maxHeartbeats 1000000 in
set_option maxRecDepth 20000 in
theorem hX_41 (ct : Nat → ClassId) (h o1 o3 o5 o7 o9 o11 : Nat) (f2 f4 f6 f8 f10 f12 : Nat → Nat) : (bigX ct h o1 o3 o5 o7 o9 o11 f2 f4 f6 f8 f10 f12)[94]? = some ((QX [h, o1, o3, o5, o7, o9, o11, f2 1, f2 6, f2 7, f2 8, f2 9, f4 2, f4 3, f4 4, f4 5, f4 6, f4 8, f6 3, f6 4, f6 10, f6 11, f6 12, f6 13, f8 4, f8 5, f8 6, f10 3, f10 4, f12 5, f12 6, f12 7, f12 8, f12 10, f2 2, f2 3, f2 4, f2 5, f6 5, f6 6, f6 7, f6 8, f6 9] [f2 2, f2 3, f2 4, f2 5, f6 5, f6 6, f6 7, f6 8, f6 9]) 41, cX ct (QX [h, o1, o3, o5, o7, o9, o11, f2 1, f2 6, f2 7, f2 8, f2 9, f4 2, f4 3, f4 4, f4 5, f4 6, f4 8, f6 3, f6 4, f6 10, f6 11, f6 12, f6 13, f8 4, f8 5, f8 6, f10 3, f10 4, f12 5, f12 6, f12 7, f12 8, f12 10, f2 2, f2 3, f2 4, f2 5, f6 5, f6 6, f6 7, f6 8, f6 9] [f2 2, f2 3, f2 4, f2 5, f6 5, f6 6, f6 7, f6 8, f6 9]) M0 41) := congrArg (fun z => (some (f6 8, (.inl (ct 3, 10, .inr (.inr (.inr (.inr z)))) : va_E)) : Option (Nat × va_E))) (QX_out [h, o1, o3, o5, o7, o9, o11, f2 1, f2 6, f2 7, f2 8, f2 9, f4 2, f4 3, f4 4, f4 5, f4 6, f4 8, f6 3, f6 4, f6 10, f6 11, f6 12, f6 13, f8 4, f8 5, f8 6, f10 3, f10 4, f12 5, f12 6, f12 7, f12 8, f12 10, f2 2, f2 3, f2 4, f2 5, f6 5, f6 6, f6 7, f6 8, f6 9] [f2 2, f2 3, f2 4, f2 5, f6 5, f6 6, f6 7, f6 8, f6 9] 7 (f6 8) rfl)
set_option maxHeartbeats 1000000 in
set_option maxRecDepth 20000 in
theorem hX_42 (ct : Nat → ClassId) (h o1 o3 o5 o7 o9 o11 : Nat) (f2 f4 f6 f8 f10 f12 : Nat → Nat) : (bigX ct h o1 o3 o5 o7 o9 o11 f2 f4 f6 f8 f10 f12)[105]? = some ((QX [h, o1, o3, o5, o7, o9, o11, f2 1, f2 6, f2 7, f2 8, f2 9, f4 2, f4 3, f4 4, f4 5, f4 6, f4 8, f6 3, f6 4, f6 10, f6 11, f6 12, f6 13, f8 4, f8 5, f8 6, f10 3, f10 4, f12 5, f12 6, f12 7, f12 8, f12 10, f2 2, f2 3, f2 4, f2 5, f6 5, f6 6, f6 7, f6 8, f6 9] [f2 2, f2 3, f2 4, f2 5, f6 5, f6 6, f6 7, f6 8, f6 9]) 42, cX ct (QX [h, o1, o3, o5, o7, o9, o11, f2 1, f2 6, f2 7, f2 8, f2 9, f4 2, f4 3, f4 4, f4 5, f4 6, f4 8, f6 3, f6 4, f6 10, f6 11, f6 12, f6 13, f8 4, f8 5, f8 6, f10 3, f10 4, f12 5, f12 6, f12 7, f12 8, f12 10, f2 2, f2 3, f2 4, f2 5, f6 5, f6 6, f6 7, f6 8, f6 9] [f2 2, f2 3, f2 4, f2 5, f6 5, f6 6, f6 7, f6 8, f6 9]) M0 42) := congrArg (fun z => (some (f6 9, (.inl (ct 3, 10, .inr (.inr (.inr (.inr z)))) : va_E)) : Option (Nat × va_E))) (QX_out [h, o1, o3, o5, o7, o9, o11, f2 1, f2 6, f2 7, f2 8, f2 9, f4 2, f4 3, f4 4, f4 5, f4 6, f4 8, f6 3, f6 4, f6 10, f6 11, f6 12, f6 13, f8 4, f8 5, f8 6, f10 3, f10 4, f12 5, f12 6, f12 7, f12 8, f12 10, f2 2, f2 3, f2 4, f2 5, f6 5, f6 6, f6 7, f6 8, f6 9] [f2 2, f2 3, f2 4, f2 5, f6 5, f6 6, f6 7, f6 8, f6 9] 8 (f6 9) rfl)
set_option maxHeartbeats 1000000 in
set_option maxRecDepth 20000 in
theorem hG_0 (ct : Nat → ClassId) (h o1 o3 o5 o7 o9 o11 : Nat) (f2 f4 f6 f8 f10 f12 : Nat → Nat) : ∀ i, i < 10 → (bigX ct h o1 o3 o5 o7 o9 o11 f2 f4 f6 f8 f10 f12)[4 + i]? = some ((QX [h, o1, o3, o5, o7, o9, o11, f2 1, f2 6, f2 7, f2 8, f2 9, f4 2, f4 3, f4 4, f4 5, f4 6, f4 8, f6 3, f6 4, f6 10, f6 11, f6 12, f6 13, f8 4, f8 5, f8 6, f10 3, f10 4, f12 5, f12 6, f12 7, f12 8, f12 10, f2 2, f2 3, f2 4, f2 5, f6 5, f6 6, f6 7, f6 8, f6 9] [f2 2, f2 3, f2 4, f2 5, f6 5, f6 6, f6 7, f6 8, f6 9]) (43 + 10 * 0 + i), cX ct (QX [h, o1, o3, o5, o7, o9, o11, f2 1, f2 6, f2 7, f2 8, f2 9, f4 2, f4 3, f4 4, f4 5, f4 6, f4 8, f6 3, f6 4, f6 10, f6 11, f6 12, f6 13, f8 4, f8 5, f8 6, f10 3, f10 4, f12 5, f12 6, f12 7, f12 8, f12 10, f2 2, f2 3, f2 4, f2 5, f6 5, f6 6, f6 7, f6 8, f6 9] [f2 2, f2 3, f2 4, f2 5, f6 5, f6 6, f6 7, f6 8, f6 9]) M0 (43 + 10 * 0 + i)) := fun i hi => match i, hi with
  | 0, _ => rfl
  | 1, _ => rfl
  | 2, _ => rfl
  | 3, _ => rfl
  | 4, _ => rfl
  | 5, _ => rfl
  | 6, _ => rfl
  | 7, _ => rfl
  | 8, _ => rfl
  | 9, _ => rfl
  | k + 10, h => absurd h (by omega)
set_option maxHeartbeats 1000000 in
set_option maxRecDepth 20000 in
theorem hG_1 (ct : Nat → ClassId) (h o1 o3 o5 o7 o9 o11 : Nat) (f2 f4 f6 f8 f10 f12 : Nat → Nat) : ∀ i, i < 10 → (bigX ct h o1 o3 o5 o7 o9 o11 f2 f4 f6 f8 f10 f12)[15 + i]? = some ((QX [h, o1, o3, o5, o7, o9, o11, f2 1, f2 6, f2 7, f2 8, f2 9, f4 2, f4 3, f4 4, f4 5, f4 6, f4 8, f6 3, f6 4, f6 10, f6 11, f6 12, f6 13, f8 4, f8 5, f8 6, f10 3, f10 4, f12 5, f12 6, f12 7, f12 8, f12 10, f2 2, f2 3, f2 4, f2 5, f6 5, f6 6, f6 7, f6 8, f6 9] [f2 2, f2 3, f2 4, f2 5, f6 5, f6 6, f6 7, f6 8, f6 9]) (43 + 10 * 1 + i), cX ct (QX [h, o1, o3, o5, o7, o9, o11, f2 1, f2 6, f2 7, f2 8, f2 9, f4 2, f4 3, f4 4, f4 5, f4 6, f4 8, f6 3, f6 4, f6 10, f6 11, f6 12, f6 13, f8 4, f8 5, f8 6, f10 3, f10 4, f12 5, f12 6, f12 7, f12 8, f12 10, f2 2, f2 3, f2 4, f2 5, f6 5, f6 6, f6 7, f6 8, f6 9] [f2 2, f2 3, f2 4, f2 5, f6 5, f6 6, f6 7, f6 8, f6 9]) M0 (43 + 10 * 1 + i)) := fun i hi => match i, hi with
  | 0, _ => rfl
  | 1, _ => rfl
  | 2, _ => rfl
  | 3, _ => rfl
  | 4, _ => rfl
  | 5, _ => rfl
  | 6, _ => rfl
  | 7, _ => rfl
  | 8, _ => rfl
  | 9, _ => rfl
  | k + 10, h => absurd h (by omega)
set_option maxHeartbeats 1000000 in
set_option maxRecDepth 20000 in
theorem hG_2 (ct : Nat → ClassId) (h o1 o3 o5 o7 o9 o11 : Nat) (f2 f4 f6 f8 f10 f12 : Nat → Nat) : ∀ i, i < 10 → (bigX ct h o1 o3 o5 o7 o9 o11 f2 f4 f6 f8 f10 f12)[26 + i]? = some ((QX [h, o1, o3, o5, o7, o9, o11, f2 1, f2 6, f2 7, f2 8, f2 9, f4 2, f4 3, f4 4, f4 5, f4 6, f4 8, f6 3, f6 4, f6 10, f6 11, f6 12, f6 13, f8 4, f8 5, f8 6, f10 3, f10 4, f12 5, f12 6, f12 7, f12 8, f12 10, f2 2, f2 3, f2 4, f2 5, f6 5, f6 6, f6 7, f6 8, f6 9] [f2 2, f2 3, f2 4, f2 5, f6 5, f6 6, f6 7, f6 8, f6 9]) (43 + 10 * 2 + i), cX ct (QX [h, o1, o3, o5, o7, o9, o11, f2 1, f2 6, f2 7, f2 8, f2 9, f4 2, f4 3, f4 4, f4 5, f4 6, f4 8, f6 3, f6 4, f6 10, f6 11, f6 12, f6 13, f8 4, f8 5, f8 6, f10 3, f10 4, f12 5, f12 6, f12 7, f12 8, f12 10, f2 2, f2 3, f2 4, f2 5, f6 5, f6 6, f6 7, f6 8, f6 9] [f2 2, f2 3, f2 4, f2 5, f6 5, f6 6, f6 7, f6 8, f6 9]) M0 (43 + 10 * 2 + i)) := fun i hi => match i, hi with
  | 0, _ => rfl
  | 1, _ => rfl
  | 2, _ => rfl
  | 3, _ => rfl
  | 4, _ => rfl
  | 5, _ => rfl
  | 6, _ => rfl
  | 7, _ => rfl
  | 8, _ => rfl
  | 9, _ => rfl
  | k + 10, h => absurd h (by omega)
set_option maxHeartbeats 1000000 in
set_option maxRecDepth 20000 in
theorem hG_3 (ct : Nat → ClassId) (h o1 o3 o5 o7 o9 o11 : Nat) (f2 f4 f6 f8 f10 f12 : Nat → Nat) : ∀ i, i < 10 → (bigX ct h o1 o3 o5 o7 o9 o11 f2 f4 f6 f8 f10 f12)[37 + i]? = some ((QX [h, o1, o3, o5, o7, o9, o11, f2 1, f2 6, f2 7, f2 8, f2 9, f4 2, f4 3, f4 4, f4 5, f4 6, f4 8, f6 3, f6 4, f6 10, f6 11, f6 12, f6 13, f8 4, f8 5, f8 6, f10 3, f10 4, f12 5, f12 6, f12 7, f12 8, f12 10, f2 2, f2 3, f2 4, f2 5, f6 5, f6 6, f6 7, f6 8, f6 9] [f2 2, f2 3, f2 4, f2 5, f6 5, f6 6, f6 7, f6 8, f6 9]) (43 + 10 * 3 + i), cX ct (QX [h, o1, o3, o5, o7, o9, o11, f2 1, f2 6, f2 7, f2 8, f2 9, f4 2, f4 3, f4 4, f4 5, f4 6, f4 8, f6 3, f6 4, f6 10, f6 11, f6 12, f6 13, f8 4, f8 5, f8 6, f10 3, f10 4, f12 5, f12 6, f12 7, f12 8, f12 10, f2 2, f2 3, f2 4, f2 5, f6 5, f6 6, f6 7, f6 8, f6 9] [f2 2, f2 3, f2 4, f2 5, f6 5, f6 6, f6 7, f6 8, f6 9]) M0 (43 + 10 * 3 + i)) := fun i hi => match i, hi with
  | 0, _ => rfl
  | 1, _ => rfl
  | 2, _ => rfl
  | 3, _ => rfl
  | 4, _ => rfl
  | 5, _ => rfl
  | 6, _ => rfl
  | 7, _ => rfl
  | 8, _ => rfl
  | 9, _ => rfl
  | k + 10, h => absurd h (by omega)
set_option maxHeartbeats 1000000 in
set_option maxRecDepth 20000 in
theorem hG_4 (ct : Nat → ClassId) (h o1 o3 o5 o7 o9 o11 : Nat) (f2 f4 f6 f8 f10 f12 : Nat → Nat) : ∀ i, i < 10 → (bigX ct h o1 o3 o5 o7 o9 o11 f2 f4 f6 f8 f10 f12)[62 + i]? = some ((QX [h, o1, o3, o5, o7, o9, o11, f2 1, f2 6, f2 7, f2 8, f2 9, f4 2, f4 3, f4 4, f4 5, f4 6, f4 8, f6 3, f6 4, f6 10, f6 11, f6 12, f6 13, f8 4, f8 5, f8 6, f10 3, f10 4, f12 5, f12 6, f12 7, f12 8, f12 10, f2 2, f2 3, f2 4, f2 5, f6 5, f6 6, f6 7, f6 8, f6 9] [f2 2, f2 3, f2 4, f2 5, f6 5, f6 6, f6 7, f6 8, f6 9]) (43 + 10 * 4 + i), cX ct (QX [h, o1, o3, o5, o7, o9, o11, f2 1, f2 6, f2 7, f2 8, f2 9, f4 2, f4 3, f4 4, f4 5, f4 6, f4 8, f6 3, f6 4, f6 10, f6 11, f6 12, f6 13, f8 4, f8 5, f8 6, f10 3, f10 4, f12 5, f12 6, f12 7, f12 8, f12 10, f2 2, f2 3, f2 4, f2 5, f6 5, f6 6, f6 7, f6 8, f6 9] [f2 2, f2 3, f2 4, f2 5, f6 5, f6 6, f6 7, f6 8, f6 9]) M0 (43 + 10 * 4 + i)) := fun i hi => match i, hi with
  | 0, _ => rfl
  | 1, _ => rfl
  | 2, _ => rfl
  | 3, _ => rfl
  | 4, _ => rfl
  | 5, _ => rfl
  | 6, _ => rfl
  | 7, _ => rfl
  | 8, _ => rfl
  | 9, _ => rfl
  | k + 10, h => absurd h (by omega)
set_option maxHeartbeats 1000000 in
set_option maxRecDepth 20000 in
theorem hG_5 (ct : Nat → ClassId) (h o1 o3 o5 o7 o9 o11 : Nat) (f2 f4 f6 f8 f10 f12 : Nat → Nat) : ∀ i, i < 10 → (bigX ct h o1 o3 o5 o7 o9 o11 f2 f4 f6 f8 f10 f12)[73 + i]? = some ((QX [h, o1, o3, o5, o7, o9, o11, f2 1, f2 6, f2 7, f2 8, f2 9, f4 2, f4 3, f4 4, f4 5, f4 6, f4 8, f6 3, f6 4, f6 10, f6 11, f6 12, f6 13, f8 4, f8 5, f8 6, f10 3, f10 4, f12 5, f12 6, f12 7, f12 8, f12 10, f2 2, f2 3, f2 4, f2 5, f6 5, f6 6, f6 7, f6 8, f6 9] [f2 2, f2 3, f2 4, f2 5, f6 5, f6 6, f6 7, f6 8, f6 9]) (43 + 10 * 5 + i), cX ct (QX [h, o1, o3, o5, o7, o9, o11, f2 1, f2 6, f2 7, f2 8, f2 9, f4 2, f4 3, f4 4, f4 5, f4 6, f4 8, f6 3, f6 4, f6 10, f6 11, f6 12, f6 13, f8 4, f8 5, f8 6, f10 3, f10 4, f12 5, f12 6, f12 7, f12 8, f12 10, f2 2, f2 3, f2 4, f2 5, f6 5, f6 6, f6 7, f6 8, f6 9] [f2 2, f2 3, f2 4, f2 5, f6 5, f6 6, f6 7, f6 8, f6 9]) M0 (43 + 10 * 5 + i)) := fun i hi => match i, hi with
  | 0, _ => rfl
  | 1, _ => rfl
  | 2, _ => rfl
  | 3, _ => rfl
  | 4, _ => rfl
  | 5, _ => rfl
  | 6, _ => rfl
  | 7, _ => rfl
  | 8, _ => rfl
  | 9, _ => rfl
  | k + 10, h => absurd h (by omega)
set_option maxHeartbeats 1000000 in
set_option maxRecDepth 20000 in
theorem hG_6 (ct : Nat → ClassId) (h o1 o3 o5 o7 o9 o11 : Nat) (f2 f4 f6 f8 f10 f12 : Nat → Nat) : ∀ i, i < 10 → (bigX ct h o1 o3 o5 o7 o9 o11 f2 f4 f6 f8 f10 f12)[84 + i]? = some ((QX [h, o1, o3, o5, o7, o9, o11, f2 1, f2 6, f2 7, f2 8, f2 9, f4 2, f4 3, f4 4, f4 5, f4 6, f4 8, f6 3, f6 4, f6 10, f6 11, f6 12, f6 13, f8 4, f8 5, f8 6, f10 3, f10 4, f12 5, f12 6, f12 7, f12 8, f12 10, f2 2, f2 3, f2 4, f2 5, f6 5, f6 6, f6 7, f6 8, f6 9] [f2 2, f2 3, f2 4, f2 5, f6 5, f6 6, f6 7, f6 8, f6 9]) (43 + 10 * 6 + i), cX ct (QX [h, o1, o3, o5, o7, o9, o11, f2 1, f2 6, f2 7, f2 8, f2 9, f4 2, f4 3, f4 4, f4 5, f4 6, f4 8, f6 3, f6 4, f6 10, f6 11, f6 12, f6 13, f8 4, f8 5, f8 6, f10 3, f10 4, f12 5, f12 6, f12 7, f12 8, f12 10, f2 2, f2 3, f2 4, f2 5, f6 5, f6 6, f6 7, f6 8, f6 9] [f2 2, f2 3, f2 4, f2 5, f6 5, f6 6, f6 7, f6 8, f6 9]) M0 (43 + 10 * 6 + i)) := fun i hi => match i, hi with
  | 0, _ => rfl
  | 1, _ => rfl
  | 2, _ => rfl
  | 3, _ => rfl
  | 4, _ => rfl
  | 5, _ => rfl
  | 6, _ => rfl
  | 7, _ => rfl
  | 8, _ => rfl
  | 9, _ => rfl
  | k + 10, h => absurd h (by omega)
set_option maxHeartbeats 1000000 in
set_option maxRecDepth 20000 in
theorem hG_7 (ct : Nat → ClassId) (h o1 o3 o5 o7 o9 o11 : Nat) (f2 f4 f6 f8 f10 f12 : Nat → Nat) : ∀ i, i < 10 → (bigX ct h o1 o3 o5 o7 o9 o11 f2 f4 f6 f8 f10 f12)[95 + i]? = some ((QX [h, o1, o3, o5, o7, o9, o11, f2 1, f2 6, f2 7, f2 8, f2 9, f4 2, f4 3, f4 4, f4 5, f4 6, f4 8, f6 3, f6 4, f6 10, f6 11, f6 12, f6 13, f8 4, f8 5, f8 6, f10 3, f10 4, f12 5, f12 6, f12 7, f12 8, f12 10, f2 2, f2 3, f2 4, f2 5, f6 5, f6 6, f6 7, f6 8, f6 9] [f2 2, f2 3, f2 4, f2 5, f6 5, f6 6, f6 7, f6 8, f6 9]) (43 + 10 * 7 + i), cX ct (QX [h, o1, o3, o5, o7, o9, o11, f2 1, f2 6, f2 7, f2 8, f2 9, f4 2, f4 3, f4 4, f4 5, f4 6, f4 8, f6 3, f6 4, f6 10, f6 11, f6 12, f6 13, f8 4, f8 5, f8 6, f10 3, f10 4, f12 5, f12 6, f12 7, f12 8, f12 10, f2 2, f2 3, f2 4, f2 5, f6 5, f6 6, f6 7, f6 8, f6 9] [f2 2, f2 3, f2 4, f2 5, f6 5, f6 6, f6 7, f6 8, f6 9]) M0 (43 + 10 * 7 + i)) := fun i hi => match i, hi with
  | 0, _ => rfl
  | 1, _ => rfl
  | 2, _ => rfl
  | 3, _ => rfl
  | 4, _ => rfl
  | 5, _ => rfl
  | 6, _ => rfl
  | 7, _ => rfl
  | 8, _ => rfl
  | 9, _ => rfl
  | k + 10, h => absurd h (by omega)
set_option maxHeartbeats 1000000 in
set_option maxRecDepth 20000 in
theorem hG_8 (ct : Nat → ClassId) (h o1 o3 o5 o7 o9 o11 : Nat) (f2 f4 f6 f8 f10 f12 : Nat → Nat) : ∀ i, i < 10 → (bigX ct h o1 o3 o5 o7 o9 o11 f2 f4 f6 f8 f10 f12)[106 + i]? = some ((QX [h, o1, o3, o5, o7, o9, o11, f2 1, f2 6, f2 7, f2 8, f2 9, f4 2, f4 3, f4 4, f4 5, f4 6, f4 8, f6 3, f6 4, f6 10, f6 11, f6 12, f6 13, f8 4, f8 5, f8 6, f10 3, f10 4, f12 5, f12 6, f12 7, f12 8, f12 10, f2 2, f2 3, f2 4, f2 5, f6 5, f6 6, f6 7, f6 8, f6 9] [f2 2, f2 3, f2 4, f2 5, f6 5, f6 6, f6 7, f6 8, f6 9]) (43 + 10 * 8 + i), cX ct (QX [h, o1, o3, o5, o7, o9, o11, f2 1, f2 6, f2 7, f2 8, f2 9, f4 2, f4 3, f4 4, f4 5, f4 6, f4 8, f6 3, f6 4, f6 10, f6 11, f6 12, f6 13, f8 4, f8 5, f8 6, f10 3, f10 4, f12 5, f12 6, f12 7, f12 8, f12 10, f2 2, f2 3, f2 4, f2 5, f6 5, f6 6, f6 7, f6 8, f6 9] [f2 2, f2 3, f2 4, f2 5, f6 5, f6 6, f6 7, f6 8, f6 9]) M0 (43 + 10 * 8 + i)) := fun i hi => match i, hi with
  | 0, _ => rfl
  | 1, _ => rfl
  | 2, _ => rfl
  | 3, _ => rfl
  | 4, _ => rfl
  | 5, _ => rfl
  | 6, _ => rfl
  | 7, _ => rfl
  | 8, _ => rfl
  | 9, _ => rfl
  | k + 10, h => absurd h (by omega)
set_option maxHeartbeats 1000000 in
set_option maxRecDepth 20000 in
theorem hmX (ct : Nat → ClassId) (h o1 o3 o5 o7 o9 o11 : Nat) (f2 f4 f6 f8 f10 f12 : Nat → Nat) : ∀ k, k < 133 → (bigX ct h o1 o3 o5 o7 o9 o11 f2 f4 f6 f8 f10 f12)[fX k]? = some ((QX [h, o1, o3, o5, o7, o9, o11, f2 1, f2 6, f2 7, f2 8, f2 9, f4 2, f4 3, f4 4, f4 5, f4 6, f4 8, f6 3, f6 4, f6 10, f6 11, f6 12, f6 13, f8 4, f8 5, f8 6, f10 3, f10 4, f12 5, f12 6, f12 7, f12 8, f12 10, f2 2, f2 3, f2 4, f2 5, f6 5, f6 6, f6 7, f6 8, f6 9] [f2 2, f2 3, f2 4, f2 5, f6 5, f6 6, f6 7, f6 8, f6 9]) k, cX ct (QX [h, o1, o3, o5, o7, o9, o11, f2 1, f2 6, f2 7, f2 8, f2 9, f4 2, f4 3, f4 4, f4 5, f4 6, f4 8, f6 3, f6 4, f6 10, f6 11, f6 12, f6 13, f8 4, f8 5, f8 6, f10 3, f10 4, f12 5, f12 6, f12 7, f12 8, f12 10, f2 2, f2 3, f2 4, f2 5, f6 5, f6 6, f6 7, f6 8, f6 9] [f2 2, f2 3, f2 4, f2 5, f6 5, f6 6, f6 7, f6 8, f6 9]) M0 k) := by
  intro k hk
  by_cases h43 : k < 43
  · match k, h43 with
    | 0, _ => exact hX_0 ct h o1 o3 o5 o7 o9 o11 f2 f4 f6 f8 f10 f12
    | 1, _ => exact hX_1 ct h o1 o3 o5 o7 o9 o11 f2 f4 f6 f8 f10 f12
    | 2, _ => exact hX_2 ct h o1 o3 o5 o7 o9 o11 f2 f4 f6 f8 f10 f12
    | 3, _ => exact hX_3 ct h o1 o3 o5 o7 o9 o11 f2 f4 f6 f8 f10 f12
    | 4, _ => exact hX_4 ct h o1 o3 o5 o7 o9 o11 f2 f4 f6 f8 f10 f12
    | 5, _ => exact hX_5 ct h o1 o3 o5 o7 o9 o11 f2 f4 f6 f8 f10 f12
    | 6, _ => exact hX_6 ct h o1 o3 o5 o7 o9 o11 f2 f4 f6 f8 f10 f12
    | 7, _ => exact hX_7 ct h o1 o3 o5 o7 o9 o11 f2 f4 f6 f8 f10 f12
    | 8, _ => exact hX_8 ct h o1 o3 o5 o7 o9 o11 f2 f4 f6 f8 f10 f12
    | 9, _ => exact hX_9 ct h o1 o3 o5 o7 o9 o11 f2 f4 f6 f8 f10 f12
    | 10, _ => exact hX_10 ct h o1 o3 o5 o7 o9 o11 f2 f4 f6 f8 f10 f12
    | 11, _ => exact hX_11 ct h o1 o3 o5 o7 o9 o11 f2 f4 f6 f8 f10 f12
    | 12, _ => exact hX_12 ct h o1 o3 o5 o7 o9 o11 f2 f4 f6 f8 f10 f12
    | 13, _ => exact hX_13 ct h o1 o3 o5 o7 o9 o11 f2 f4 f6 f8 f10 f12
    | 14, _ => exact hX_14 ct h o1 o3 o5 o7 o9 o11 f2 f4 f6 f8 f10 f12
    | 15, _ => exact hX_15 ct h o1 o3 o5 o7 o9 o11 f2 f4 f6 f8 f10 f12
    | 16, _ => exact hX_16 ct h o1 o3 o5 o7 o9 o11 f2 f4 f6 f8 f10 f12
    | 17, _ => exact hX_17 ct h o1 o3 o5 o7 o9 o11 f2 f4 f6 f8 f10 f12
    | 18, _ => exact hX_18 ct h o1 o3 o5 o7 o9 o11 f2 f4 f6 f8 f10 f12
    | 19, _ => exact hX_19 ct h o1 o3 o5 o7 o9 o11 f2 f4 f6 f8 f10 f12
    | 20, _ => exact hX_20 ct h o1 o3 o5 o7 o9 o11 f2 f4 f6 f8 f10 f12
    | 21, _ => exact hX_21 ct h o1 o3 o5 o7 o9 o11 f2 f4 f6 f8 f10 f12
    | 22, _ => exact hX_22 ct h o1 o3 o5 o7 o9 o11 f2 f4 f6 f8 f10 f12
    | 23, _ => exact hX_23 ct h o1 o3 o5 o7 o9 o11 f2 f4 f6 f8 f10 f12
    | 24, _ => exact hX_24 ct h o1 o3 o5 o7 o9 o11 f2 f4 f6 f8 f10 f12
    | 25, _ => exact hX_25 ct h o1 o3 o5 o7 o9 o11 f2 f4 f6 f8 f10 f12
    | 26, _ => exact hX_26 ct h o1 o3 o5 o7 o9 o11 f2 f4 f6 f8 f10 f12
    | 27, _ => exact hX_27 ct h o1 o3 o5 o7 o9 o11 f2 f4 f6 f8 f10 f12
    | 28, _ => exact hX_28 ct h o1 o3 o5 o7 o9 o11 f2 f4 f6 f8 f10 f12
    | 29, _ => exact hX_29 ct h o1 o3 o5 o7 o9 o11 f2 f4 f6 f8 f10 f12
    | 30, _ => exact hX_30 ct h o1 o3 o5 o7 o9 o11 f2 f4 f6 f8 f10 f12
    | 31, _ => exact hX_31 ct h o1 o3 o5 o7 o9 o11 f2 f4 f6 f8 f10 f12
    | 32, _ => exact hX_32 ct h o1 o3 o5 o7 o9 o11 f2 f4 f6 f8 f10 f12
    | 33, _ => exact hX_33 ct h o1 o3 o5 o7 o9 o11 f2 f4 f6 f8 f10 f12
    | 34, _ => exact hX_34 ct h o1 o3 o5 o7 o9 o11 f2 f4 f6 f8 f10 f12
    | 35, _ => exact hX_35 ct h o1 o3 o5 o7 o9 o11 f2 f4 f6 f8 f10 f12
    | 36, _ => exact hX_36 ct h o1 o3 o5 o7 o9 o11 f2 f4 f6 f8 f10 f12
    | 37, _ => exact hX_37 ct h o1 o3 o5 o7 o9 o11 f2 f4 f6 f8 f10 f12
    | 38, _ => exact hX_38 ct h o1 o3 o5 o7 o9 o11 f2 f4 f6 f8 f10 f12
    | 39, _ => exact hX_39 ct h o1 o3 o5 o7 o9 o11 f2 f4 f6 f8 f10 f12
    | 40, _ => exact hX_40 ct h o1 o3 o5 o7 o9 o11 f2 f4 f6 f8 f10 f12
    | 41, _ => exact hX_41 ct h o1 o3 o5 o7 o9 o11 f2 f4 f6 f8 f10 f12
    | 42, _ => exact hX_42 ct h o1 o3 o5 o7 o9 o11 f2 f4 f6 f8 f10 f12
    | k + 43, h => omega
  · obtain ⟨g, i, hg, hi, rfl⟩ : ∃ g i, g < 9 ∧ i < 10 ∧ k = 43 + 10 * g + i := ⟨(k - 43) / 10, (k - 43) % 10, by omega, by omega, by omega⟩
    match g, hg with
    | 0, _ => exact (show fX (43 + 10 * 0 + i) = 4 + i from fX_0 i hi) ▸ hG_0 ct h o1 o3 o5 o7 o9 o11 f2 f4 f6 f8 f10 f12 i hi
    | 1, _ => exact (show fX (43 + 10 * 1 + i) = 15 + i from fX_1 i hi) ▸ hG_1 ct h o1 o3 o5 o7 o9 o11 f2 f4 f6 f8 f10 f12 i hi
    | 2, _ => exact (show fX (43 + 10 * 2 + i) = 26 + i from fX_2 i hi) ▸ hG_2 ct h o1 o3 o5 o7 o9 o11 f2 f4 f6 f8 f10 f12 i hi
    | 3, _ => exact (show fX (43 + 10 * 3 + i) = 37 + i from fX_3 i hi) ▸ hG_3 ct h o1 o3 o5 o7 o9 o11 f2 f4 f6 f8 f10 f12 i hi
    | 4, _ => exact (show fX (43 + 10 * 4 + i) = 62 + i from fX_4 i hi) ▸ hG_4 ct h o1 o3 o5 o7 o9 o11 f2 f4 f6 f8 f10 f12 i hi
    | 5, _ => exact (show fX (43 + 10 * 5 + i) = 73 + i from fX_5 i hi) ▸ hG_5 ct h o1 o3 o5 o7 o9 o11 f2 f4 f6 f8 f10 f12 i hi
    | 6, _ => exact (show fX (43 + 10 * 6 + i) = 84 + i from fX_6 i hi) ▸ hG_6 ct h o1 o3 o5 o7 o9 o11 f2 f4 f6 f8 f10 f12 i hi
    | 7, _ => exact (show fX (43 + 10 * 7 + i) = 95 + i from fX_7 i hi) ▸ hG_7 ct h o1 o3 o5 o7 o9 o11 f2 f4 f6 f8 f10 f12 i hi
    | 8, _ => exact (show fX (43 + 10 * 8 + i) = 106 + i from fX_8 i hi) ▸ hG_8 ct h o1 o3 o5 o7 o9 o11 f2 f4 f6 f8 f10 f12 i hi
    | k + 9, h => omega
def fR (k : Nat) : Nat := [0, 1, 2, 3, 4, 5, 6, 7, 8, 9, 10, 11, 12, 13, 14, 15, 16, 17, 18, 19, 20, 21, 22, 23, 24, 25, 26, 27, 28, 29, 30].getD k 0
def gR (k : Nat) : Nat := [0, 1, 2, 3, 4, 5, 6, 7, 8, 9, 10, 11, 12, 13, 14, 15, 16, 17, 18, 19, 20, 21, 22, 23, 24, 25, 26, 27, 28, 29, 30].getD k 0
theorem gfR : ∀ k, k < 31 → gR (fR k) = k := by decide +kernel
def bigR (ct : Nat → ClassId) (h q1 q2 q3 q4 q5 q6 q7 q8 q9 q10 q11 q12 q13 q14 q15 q16 q17 q18 q19 q20 q21 q22 q23 q24 q25 q26 q27 q28 q29 q30 : Nat) : va_W := (eO h 7 [.int 0, .int 0, .ref q1, .ref q2, .ref q3, .ref q4, .ref q5, .ref q6, .ref q7, .ref q8, .ref q9, .int 0, .int 0, .ref q10, .ref q11, .ref q12, .ref q13, .int 0, .ref q14, .ref q15, .ref q16, .ref q17, .ref q18, .ref q19, .ref q20, .ref q21, .ref q22, .int 0, .ref q23, .ref q24, .ref q25, .ref q26, .int 0, .ref q27, .int 0, .int 0, .ref q28, .int 0, .int 0, .ref q29, .ref q30] :: eI q1 (ct 0) 10 :: eI q2 (ct 0) 60 :: eI q3 (ct 0) 60 :: eI q4 (ct 0) 60 :: eI q5 (ct 0) 60 :: eI q6 (ct 0) 10 :: eI q7 (ct 0) 10 :: eI q8 (ct 0) 10 :: eI q9 (ct 0) 10 :: eI q10 (ct 0) 10 :: eI q11 (ct 0) 10 :: eI q12 (ct 0) 10 :: eI q13 (ct 0) 10 :: eI q14 (ct 0) 130 :: eI q15 (ct 0) 130 :: eI q16 (ct 0) 60 :: eI q17 (ct 0) 60 :: eI q18 (ct 0) 60 :: eI q19 (ct 0) 60 :: eI q20 (ct 0) 10 :: eI q21 (ct 0) 60 :: eI q22 (ct 0) 12 :: eI q23 (ct 0) 10 :: eI q24 (ct 0) 130 :: eI q25 (ct 0) 130 :: (q26, .inl (ct 1, 130, .inl (fun _ => 0))) :: eI q27 (ct 0) 16 :: eI q28 (ct 0) 40 :: eI q29 (ct 0) 130 :: [eI q30 (ct 0) 6])
theorem bigR_eq (ct : Nat → ClassId) (h q1 q2 q3 q4 q5 q6 q7 q8 q9 q10 q11 q12 q13 q14 q15 q16 q17 q18 q19 q20 q21 q22 q23 q24 q25 q26 q27 q28 q29 q30 : Nat) : ([eO h 7 [.int 0, .int 0, .ref q1, .ref q2, .ref q3, .ref q4, .ref q5, .ref q6, .ref q7, .ref q8, .ref q9, .int 0, .int 0, .ref q10, .ref q11, .ref q12, .ref q13, .int 0, .ref q14, .ref q15, .ref q16, .ref q17, .ref q18, .ref q19, .ref q20, .ref q21, .ref q22, .int 0, .ref q23, .ref q24, .ref q25, .ref q26, .int 0, .ref q27, .int 0, .int 0, .ref q28, .int 0, .int 0, .ref q29, .ref q30]] ++ ((((((((((((((((((((((((((((([eI q1 (ct 0) 10] ++ [eI q2 (ct 0) 60]) ++ [eI q3 (ct 0) 60]) ++ [eI q4 (ct 0) 60]) ++ [eI q5 (ct 0) 60]) ++ [eI q6 (ct 0) 10]) ++ [eI q7 (ct 0) 10]) ++ [eI q8 (ct 0) 10]) ++ [eI q9 (ct 0) 10]) ++ [eI q10 (ct 0) 10]) ++ [eI q11 (ct 0) 10]) ++ [eI q12 (ct 0) 10]) ++ [eI q13 (ct 0) 10]) ++ [eI q14 (ct 0) 130]) ++ [eI q15 (ct 0) 130]) ++ [eI q16 (ct 0) 60]) ++ [eI q17 (ct 0) 60]) ++ [eI q18 (ct 0) 60]) ++ [eI q19 (ct 0) 60]) ++ [eI q20 (ct 0) 10]) ++ [eI q21 (ct 0) 60]) ++ [eI q22 (ct 0) 12]) ++ [eI q23 (ct 0) 10]) ++ [eI q24 (ct 0) 130]) ++ [eI q25 (ct 0) 130]) ++ [(q26, .inl (ct 1, 130, .inl (fun _ => 0)))]) ++ [eI q27 (ct 0) 16]) ++ [eI q28 (ct 0) 40]) ++ [eI q29 (ct 0) 130]) ++ [eI q30 (ct 0) 6])) = bigR ct h q1 q2 q3 q4 q5 q6 q7 q8 q9 q10 q11 q12 q13 q14 q15 q16 q17 q18 q19 q20 q21 q22 q23 q24 q25 q26 q27 q28 q29 q30 := by
  simp only [bigR, List.append_assoc, List.cons_append, List.nil_append]
set_option maxHeartbeats 1000000 in
set_option maxRecDepth 20000 in
theorem hR_0 (ct : Nat → ClassId) (h q1 q2 q3 q4 q5 q6 q7 q8 q9 q10 q11 q12 q13 q14 q15 q16 q17 q18 q19 q20 q21 q22 q23 q24 q25 q26 q27 q28 q29 q30 : Nat) : (bigR ct h q1 q2 q3 q4 q5 q6 q7 q8 q9 q10 q11 q12 q13 q14 q15 q16 q17 q18 q19 q20 q21 q22 q23 q24 q25 q26 q27 q28 q29 q30)[0]? = some ((fun k => [h, q1, q2, q3, q4, q5, q6, q7, q8, q9, q10, q11, q12, q13, q14, q15, q16, q17, q18, q19, q20, q21, q22, q23, q24, q25, q26, q27, q28, q29, q30].getD k 0) 0, cR ct (fun k => [h, q1, q2, q3, q4, q5, q6, q7, q8, q9, q10, q11, q12, q13, q14, q15, q16, q17, q18, q19, q20, q21, q22, q23, q24, q25, q26, q27, q28, q29, q30].getD k 0) M0 0) := rfl
set_option maxHeartbeats 1000000 in
set_option maxRecDepth 20000 in
theorem hR_1 (ct : Nat → ClassId) (h q1 q2 q3 q4 q5 q6 q7 q8 q9 q10 q11 q12 q13 q14 q15 q16 q17 q18 q19 q20 q21 q22 q23 q24 q25 q26 q27 q28 q29 q30 : Nat) : (bigR ct h q1 q2 q3 q4 q5 q6 q7 q8 q9 q10 q11 q12 q13 q14 q15 q16 q17 q18 q19 q20 q21 q22 q23 q24 q25 q26 q27 q28 q29 q30)[1]? = some ((fun k => [h, q1, q2, q3, q4, q5, q6, q7, q8, q9, q10, q11, q12, q13, q14, q15, q16, q17, q18, q19, q20, q21, q22, q23, q24, q25, q26, q27, q28, q29, q30].getD k 0) 1, cR ct (fun k => [h, q1, q2, q3, q4, q5, q6, q7, q8, q9, q10, q11, q12, q13, q14, q15, q16, q17, q18, q19, q20, q21, q22, q23, q24, q25, q26, q27, q28, q29, q30].getD k 0) M0 1) := rfl
set_option maxHeartbeats 1000000 in
set_option maxRecDepth 20000 in
theorem hR_2 (ct : Nat → ClassId) (h q1 q2 q3 q4 q5 q6 q7 q8 q9 q10 q11 q12 q13 q14 q15 q16 q17 q18 q19 q20 q21 q22 q23 q24 q25 q26 q27 q28 q29 q30 : Nat) : (bigR ct h q1 q2 q3 q4 q5 q6 q7 q8 q9 q10 q11 q12 q13 q14 q15 q16 q17 q18 q19 q20 q21 q22 q23 q24 q25 q26 q27 q28 q29 q30)[2]? = some ((fun k => [h, q1, q2, q3, q4, q5, q6, q7, q8, q9, q10, q11, q12, q13, q14, q15, q16, q17, q18, q19, q20, q21, q22, q23, q24, q25, q26, q27, q28, q29, q30].getD k 0) 2, cR ct (fun k => [h, q1, q2, q3, q4, q5, q6, q7, q8, q9, q10, q11, q12, q13, q14, q15, q16, q17, q18, q19, q20, q21, q22, q23, q24, q25, q26, q27, q28, q29, q30].getD k 0) M0 2) := rfl
set_option maxHeartbeats 1000000 in
set_option maxRecDepth 20000 in
theorem hR_3 (ct : Nat → ClassId) (h q1 q2 q3 q4 q5 q6 q7 q8 q9 q10 q11 q12 q13 q14 q15 q16 q17 q18 q19 q20 q21 q22 q23 q24 q25 q26 q27 q28 q29 q30 : Nat) : (bigR ct h q1 q2 q3 q4 q5 q6 q7 q8 q9 q10 q11 q12 q13 q14 q15 q16 q17 q18 q19 q20 q21 q22 q23 q24 q25 q26 q27 q28 q29 q30)[3]? = some ((fun k => [h, q1, q2, q3, q4, q5, q6, q7, q8, q9, q10, q11, q12, q13, q14, q15, q16, q17, q18, q19, q20, q21, q22, q23, q24, q25, q26, q27, q28, q29, q30].getD k 0) 3, cR ct (fun k => [h, q1, q2, q3, q4, q5, q6, q7, q8, q9, q10, q11, q12, q13, q14, q15, q16, q17, q18, q19, q20, q21, q22, q23, q24, q25, q26, q27, q28, q29, q30].getD k 0) M0 3) := rfl
set_option maxHeartbeats 1000000 in
set_option maxRecDepth 20000 in
theorem hR_4 (ct : Nat → ClassId) (h q1 q2 q3 q4 q5 q6 q7 q8 q9 q10 q11 q12 q13 q14 q15 q16 q17 q18 q19 q20 q21 q22 q23 q24 q25 q26 q27 q28 q29 q30 : Nat) : (bigR ct h q1 q2 q3 q4 q5 q6 q7 q8 q9 q10 q11 q12 q13 q14 q15 q16 q17 q18 q19 q20 q21 q22 q23 q24 q25 q26 q27 q28 q29 q30)[4]? = some ((fun k => [h, q1, q2, q3, q4, q5, q6, q7, q8, q9, q10, q11, q12, q13, q14, q15, q16, q17, q18, q19, q20, q21, q22, q23, q24, q25, q26, q27, q28, q29, q30].getD k 0) 4, cR ct (fun k => [h, q1, q2, q3, q4, q5, q6, q7, q8, q9, q10, q11, q12, q13, q14, q15, q16, q17, q18, q19, q20, q21, q22, q23, q24, q25, q26, q27, q28, q29, q30].getD k 0) M0 4) := rfl
set_option maxHeartbeats 1000000 in
set_option maxRecDepth 20000 in
theorem hR_5 (ct : Nat → ClassId) (h q1 q2 q3 q4 q5 q6 q7 q8 q9 q10 q11 q12 q13 q14 q15 q16 q17 q18 q19 q20 q21 q22 q23 q24 q25 q26 q27 q28 q29 q30 : Nat) : (bigR ct h q1 q2 q3 q4 q5 q6 q7 q8 q9 q10 q11 q12 q13 q14 q15 q16 q17 q18 q19 q20 q21 q22 q23 q24 q25 q26 q27 q28 q29 q30)[5]? = some ((fun k => [h, q1, q2, q3, q4, q5, q6, q7, q8, q9, q10, q11, q12, q13, q14, q15, q16, q17, q18, q19, q20, q21, q22, q23, q24, q25, q26, q27, q28, q29, q30].getD k 0) 5, cR ct (fun k => [h, q1, q2, q3, q4, q5, q6, q7, q8, q9, q10, q11, q12, q13, q14, q15, q16, q17, q18, q19, q20, q21, q22, q23, q24, q25, q26, q27, q28, q29, q30].getD k 0) M0 5) := rfl
set_option maxHeartbeats 1000000 in
set_option maxRecDepth 20000 in
theorem hR_6 (ct : Nat → ClassId) (h q1 q2 q3 q4 q5 q6 q7 q8 q9 q10 q11 q12 q13 q14 q15 q16 q17 q18 q19 q20 q21 q22 q23 q24 q25 q26 q27 q28 q29 q30 : Nat) : (bigR ct h q1 q2 q3 q4 q5 q6 q7 q8 q9 q10 q11 q12 q13 q14 q15 q16 q17 q18 q19 q20 q21 q22 q23 q24 q25 q26 q27 q28 q29 q30)[6]? = some ((fun k => [h, q1, q2, q3, q4, q5, q6, q7, q8, q9, q10, q11, q12, q13, q14, q15, q16, q17, q18, q19, q20, q21, q22, q23, q24, q25, q26, q27, q28, q29, q30].getD k 0) 6, cR ct (fun k => [h, q1, q2, q3, q4, q5, q6, q7, q8, q9, q10, q11, q12, q13, q14, q15, q16, q17, q18, q19, q20, q21, q22, q23, q24, q25, q26, q27, q28, q29, q30].getD k 0) M0 6) := rfl
set_option maxHeartbeats 1000000 in
set_option maxRecDepth 20000 in
theorem hR_7 (ct : Nat → ClassId) (h q1 q2 q3 q4 q5 q6 q7 q8 q9 q10 q11 q12 q13 q14 q15 q16 q17 q18 q19 q20 q21 q22 q23 q24 q25 q26 q27 q28 q29 q30 : Nat) : (bigR ct h q1 q2 q3 q4 q5 q6 q7 q8 q9 q10 q11 q12 q13 q14 q15 q16 q17 q18 q19 q20 q21 q22 q23 q24 q25 q26 q27 q28 q29 q30)[7]? = some ((fun k => [h, q1, q2, q3, q4, q5, q6, q7, q8, q9, q10, q11, q12, q13, q14, q15, q16, q17, q18, q19, q20, q21, q22, q23, q24, q25, q26, q27, q28, q29, q30].getD k 0) 7, cR ct (fun k => [h, q1, q2, q3, q4, q5, q6, q7, q8, q9, q10, q11, q12, q13, q14, q15, q16, q17, q18, q19, q20, q21, q22, q23, q24, q25, q26, q27, q28, q29, q30].getD k 0) M0 7) := rfl
set_option maxHeartbeats 1000000 in
set_option maxRecDepth 20000 in
theorem hR_8 (ct : Nat → ClassId) (h q1 q2 q3 q4 q5 q6 q7 q8 q9 q10 q11 q12 q13 q14 q15 q16 q17 q18 q19 q20 q21 q22 q23 q24 q25 q26 q27 q28 q29 q30 : Nat) : (bigR ct h q1 q2 q3 q4 q5 q6 q7 q8 q9 q10 q11 q12 q13 q14 q15 q16 q17 q18 q19 q20 q21 q22 q23 q24 q25 q26 q27 q28 q29 q30)[8]? = some ((fun k => [h, q1, q2, q3, q4, q5, q6, q7, q8, q9, q10, q11, q12, q13, q14, q15, q16, q17, q18, q19, q20, q21, q22, q23, q24, q25, q26, q27, q28, q29, q30].getD k 0) 8, cR ct (fun k => [h, q1, q2, q3, q4, q5, q6, q7, q8, q9, q10, q11, q12, q13, q14, q15, q16, q17, q18, q19, q20, q21, q22, q23, q24, q25, q26, q27, q28, q29, q30].getD k 0) M0 8) := rfl
set_option maxHeartbeats 1000000 in
set_option maxRecDepth 20000 in
theorem hR_9 (ct : Nat → ClassId) (h q1 q2 q3 q4 q5 q6 q7 q8 q9 q10 q11 q12 q13 q14 q15 q16 q17 q18 q19 q20 q21 q22 q23 q24 q25 q26 q27 q28 q29 q30 : Nat) : (bigR ct h q1 q2 q3 q4 q5 q6 q7 q8 q9 q10 q11 q12 q13 q14 q15 q16 q17 q18 q19 q20 q21 q22 q23 q24 q25 q26 q27 q28 q29 q30)[9]? = some ((fun k => [h, q1, q2, q3, q4, q5, q6, q7, q8, q9, q10, q11, q12, q13, q14, q15, q16, q17, q18, q19, q20, q21, q22, q23, q24, q25, q26, q27, q28, q29, q30].getD k 0) 9, cR ct (fun k => [h, q1, q2, q3, q4, q5, q6, q7, q8, q9, q10, q11, q12, q13, q14, q15, q16, q17, q18, q19, q20, q21, q22, q23, q24, q25, q26, q27, q28, q29, q30].getD k 0) M0 9) := rfl
set_option maxHeartbeats 1000000 in
set_option maxRecDepth 20000 in
theorem hR_10 (ct : Nat → ClassId) (h q1 q2 q3 q4 q5 q6 q7 q8 q9 q10 q11 q12 q13 q14 q15 q16 q17 q18 q19 q20 q21 q22 q23 q24 q25 q26 q27 q28 q29 q30 : Nat) : (bigR ct h q1 q2 q3 q4 q5 q6 q7 q8 q9 q10 q11 q12 q13 q14 q15 q16 q17 q18 q19 q20 q21 q22 q23 q24 q25 q26 q27 q28 q29 q30)[10]? = some ((fun k => [h, q1, q2, q3, q4, q5, q6, q7, q8, q9, q10, q11, q12, q13, q14, q15, q16, q17, q18, q19, q20, q21, q22, q23, q24, q25, q26, q27, q28, q29, q30].getD k 0) 10, cR ct (fun k => [h, q1, q2, q3, q4, q5, q6, q7, q8, q9, q10, q11, q12, q13, q14, q15, q16, q17, q18, q19, q20, q21, q22, q23, q24, q25, q26, q27, q28, q29, q30].getD k 0) M0 10) := rfl
set_option maxHeartbeats 1000000 in
set_option maxRecDepth 20000 in
theorem hR_11 (ct : Nat → ClassId) (h q1 q2 q3 q4 q5 q6 q7 q8 q9 q10 q11 q12 q13 q14 q15 q16 q17 q18 q19 q20 q21 q22 q23 q24 q25 q26 q27 q28 q29 q30 : Nat) : (bigR ct h q1 q2 q3 q4 q5 q6 q7 q8 q9 q10 q11 q12 q13 q14 q15 q16 q17 q18 q19 q20 q21 q22 q23 q24 q25 q26 q27 q28 q29 q30)[11]? = some ((fun k => [h, q1, q2, q3, q4, q5, q6, q7, q8, q9, q10, q11, q12, q13, q14, q15, q16, q17, q18, q19, q20, q21, q22, q23, q24, q25, q26, q27, q28, q29, q30].getD k 0) 11, cR ct (fun k => [h, q1, q2, q3, q4, q5, q6, q7, q8, q9, q10, q11, q12, q13, q14, q15, q16, q17, q18, q19, q20, q21, q22, q23, q24, q25, q26, q27, q28, q29, q30].getD k 0) M0 11) := rfl
set_option maxHeartbeats 1000000 in
set_option maxRecDepth 20000 in
theorem hR_12 (ct : Nat → ClassId) (h q1 q2 q3 q4 q5 q6 q7 q8 q9 q10 q11 q12 q13 q14 q15 q16 q17 q18 q19 q20 q21 q22 q23 q24 q25 q26 q27 q28 q29 q30 : Nat) : (bigR ct h q1 q2 q3 q4 q5 q6 q7 q8 q9 q10 q11 q12 q13 q14 q15 q16 q17 q18 q19 q20 q21 q22 q23 q24 q25 q26 q27 q28 q29 q30)[12]? = some ((fun k => [h, q1, q2, q3, q4, q5, q6, q7, q8, q9, q10, q11, q12, q13, q14, q15, q16, q17, q18, q19, q20, q21, q22, q23, q24, q25, q26, q27, q28, q29, q30].getD k 0) 12, cR ct (fun k => [h, q1, q2, q3, q4, q5, q6, q7, q8, q9, q10, q11, q12, q13, q14, q15, q16, q17, q18, q19, q20, q21, q22, q23, q24, q25, q26, q27, q28, q29, q30].getD k 0) M0 12) := rfl
set_option maxHeartbeats 1000000 in
set_option maxRecDepth 20000 in
theorem hR_13 (ct : Nat → ClassId) (h q1 q2 q3 q4 q5 q6 q7 q8 q9 q10 q11 q12 q13 q14 q15 q16 q17 q18 q19 q20 q21 q22 q23 q24 q25 q26 q27 q28 q29 q30 : Nat) : (bigR ct h q1 q2 q3 q4 q5 q6 q7 q8 q9 q10 q11 q12 q13 q14 q15 q16 q17 q18 q19 q20 q21 q22 q23 q24 q25 q26 q27 q28 q29 q30)[13]? = some ((fun k => [h, q1, q2, q3, q4, q5, q6, q7, q8, q9, q10, q11, q12, q13, q14, q15, q16, q17, q18, q19, q20, q21, q22, q23, q24, q25, q26, q27, q28, q29, q30].getD k 0) 13, cR ct (fun k => [h, q1, q2, q3, q4, q5, q6, q7, q8, q9, q10, q11, q12, q13, q14, q15, q16, q17, q18, q19, q20, q21, q22, q23, q24, q25, q26, q27, q28, q29, q30].getD k 0) M0 13) := rfl
set_option maxHeartbeats 1000000 in
set_option maxRecDepth 20000 in
theorem hR_14 (ct : Nat → ClassId) (h q1 q2 q3 q4 q5 q6 q7 q8 q9 q10 q11 q12 q13 q14 q15 q16 q17 q18 q19 q20 q21 q22 q23 q24 q25 q26 q27 q28 q29 q30 : Nat) : (bigR ct h q1 q2 q3 q4 q5 q6 q7 q8 q9 q10 q11 q12 q13 q14 q15 q16 q17 q18 q19 q20 q21 q22 q23 q24 q25 q26 q27 q28 q29 q30)[14]? = some ((fun k => [h, q1, q2, q3, q4, q5, q6, q7, q8, q9, q10, q11, q12, q13, q14, q15, q16, q17, q18, q19, q20, q21, q22, q23, q24, q25, q26, q27, q28, q29, q30].getD k 0) 14, cR ct (fun k => [h, q1, q2, q3, q4, q5, q6, q7, q8, q9, q10, q11, q12, q13, q14, q15, q16, q17, q18, q19, q20, q21, q22, q23, q24, q25, q26, q27, q28, q29, q30].getD k 0) M0 14) := rfl
set_option maxHeartbeats 1000000 in
set_option maxRecDepth 20000 in
theorem hR_15 (ct : Nat → ClassId) (h q1 q2 q3 q4 q5 q6 q7 q8 q9 q10 q11 q12 q13 q14 q15 q16 q17 q18 q19 q20 q21 q22 q23 q24 q25 q26 q27 q28 q29 q30 : Nat) : (bigR ct h q1 q2 q3 q4 q5 q6 q7 q8 q9 q10 q11 q12 q13 q14 q15 q16 q17 q18 q19 q20 q21 q22 q23 q24 q25 q26 q27 q28 q29 q30)[15]? = some ((fun k => [h, q1, q2, q3, q4, q5, q6, q7, q8, q9, q10, q11, q12, q13, q14, q15, q16, q17, q18, q19, q20, q21, q22, q23, q24, q25, q26, q27, q28, q29, q30].getD k 0) 15, cR ct (fun k => [h, q1, q2, q3, q4, q5, q6, q7, q8, q9, q10, q11, q12, q13, q14, q15, q16, q17, q18, q19, q20, q21, q22, q23, q24, q25, q26, q27, q28, q29, q30].getD k 0) M0 15) := rfl
set_option maxHeartbeats 1000000 in
set_option maxRecDepth 20000 in
theorem hR_16 (ct : Nat → ClassId) (h q1 q2 q3 q4 q5 q6 q7 q8 q9 q10 q11 q12 q13 q14 q15 q16 q17 q18 q19 q20 q21 q22 q23 q24 q25 q26 q27 q28 q29 q30 : Nat) : (bigR ct h q1 q2 q3 q4 q5 q6 q7 q8 q9 q10 q11 q12 q13 q14 q15 q16 q17 q18 q19 q20 q21 q22 q23 q24 q25 q26 q27 q28 q29 q30)[16]? = some ((fun k => [h, q1, q2, q3, q4, q5, q6, q7, q8, q9, q10, q11, q12, q13, q14, q15, q16, q17, q18, q19, q20, q21, q22, q23, q24, q25, q26, q27, q28, q29, q30].getD k 0) 16, cR ct (fun k => [h, q1, q2, q3, q4, q5, q6, q7, q8, q9, q10, q11, q12, q13, q14, q15, q16, q17, q18, q19, q20, q21, q22, q23, q24, q25, q26, q27, q28, q29, q30].getD k 0) M0 16) := rfl
set_option maxHeartbeats 1000000 in
set_option maxRecDepth 20000 in
theorem hR_17 (ct : Nat → ClassId) (h q1 q2 q3 q4 q5 q6 q7 q8 q9 q10 q11 q12 q13 q14 q15 q16 q17 q18 q19 q20 q21 q22 q23 q24 q25 q26 q27 q28 q29 q30 : Nat) : (bigR ct h q1 q2 q3 q4 q5 q6 q7 q8 q9 q10 q11 q12 q13 q14 q15 q16 q17 q18 q19 q20 q21 q22 q23 q24 q25 q26 q27 q28 q29 q30)[17]? = some ((fun k => [h, q1, q2, q3, q4, q5, q6, q7, q8, q9, q10, q11, q12, q13, q14, q15, q16, q17, q18, q19, q20, q21, q22, q23, q24, q25, q26, q27, q28, q29, q30].getD k 0) 17, cR ct (fun k => [h, q1, q2, q3, q4, q5, q6, q7, q8, q9, q10, q11, q12, q13, q14, q15, q16, q17, q18, q19, q20, q21, q22, q23, q24, q25, q26, q27, q28, q29, q30].getD k 0) M0 17) := rfl
set_option maxHeartbeats 1000000 in
set_option maxRecDepth 20000 in
theorem hR_18 (ct : Nat → ClassId) (h q1 q2 q3 q4 q5 q6 q7 q8 q9 q10 q11 q12 q13 q14 q15 q16 q17 q18 q19 q20 q21 q22 q23 q24 q25 q26 q27 q28 q29 q30 : Nat) : (bigR ct h q1 q2 q3 q4 q5 q6 q7 q8 q9 q10 q11 q12 q13 q14 q15 q16 q17 q18 q19 q20 q21 q22 q23 q24 q25 q26 q27 q28 q29 q30)[18]? = some ((fun k => [h, q1, q2, q3, q4, q5, q6, q7, q8, q9, q10, q11, q12, q13, q14, q15, q16, q17, q18, q19, q20, q21, q22, q23, q24, q25, q26, q27, q28, q29, q30].getD k 0) 18, cR ct (fun k => [h, q1, q2, q3, q4, q5, q6, q7, q8, q9, q10, q11, q12, q13, q14, q15, q16, q17, q18, q19, q20, q21, q22, q23, q24, q25, q26, q27, q28, q29, q30].getD k 0) M0 18) := rfl
set_option maxHeartbeats 1000000 in
set_option maxRecDepth 20000 in
theorem hR_19 (ct : Nat → ClassId) (h q1 q2 q3 q4 q5 q6 q7 q8 q9 q10 q11 q12 q13 q14 q15 q16 q17 q18 q19 q20 q21 q22 q23 q24 q25 q26 q27 q28 q29 q30 : Nat) : (bigR ct h q1 q2 q3 q4 q5 q6 q7 q8 q9 q10 q11 q12 q13 q14 q15 q16 q17 q18 q19 q20 q21 q22 q23 q24 q25 q26 q27 q28 q29 q30)[19]? = some ((fun k => [h, q1, q2, q3, q4, q5, q6, q7, q8, q9, q10, q11, q12, q13, q14, q15, q16, q17, q18, q19, q20, q21, q22, q23, q24, q25, q26, q27, q28, q29, q30].getD k 0) 19, cR ct (fun k => [h, q1, q2, q3, q4, q5, q6, q7, q8, q9, q10, q11, q12, q13, q14, q15, q16, q17, q18, q19, q20, q21, q22, q23, q24, q25, q26, q27, q28, q29, q30].getD k 0) M0 19) := rfl
set_option maxHeartbeats 1000000 in
set_option maxRecDepth 20000 in
theorem hR_20 (ct : Nat → ClassId) (h q1 q2 q3 q4 q5 q6 q7 q8 q9 q10 q11 q12 q13 q14 q15 q16 q17 q18 q19 q20 q21 q22 q23 q24 q25 q26 q27 q28 q29 q30 : Nat) : (bigR ct h q1 q2 q3 q4 q5 q6 q7 q8 q9 q10 q11 q12 q13 q14 q15 q16 q17 q18 q19 q20 q21 q22 q23 q24 q25 q26 q27 q28 q29 q30)[20]? = some ((fun k => [h, q1, q2, q3, q4, q5, q6, q7, q8, q9, q10, q11, q12, q13, q14, q15, q16, q17, q18, q19, q20, q21, q22, q23, q24, q25, q26, q27, q28, q29, q30].getD k 0) 20, cR ct (fun k => [h, q1, q2, q3, q4, q5, q6, q7, q8, q9, q10, q11, q12, q13, q14, q15, q16, q17, q18, q19, q20, q21, q22, q23, q24, q25, q26, q27, q28, q29, q30].getD k 0) M0 20) := rfl
set_option maxHeartbeats 1000000 in
set_option maxRecDepth 20000 in
theorem hR_21 (ct : Nat → ClassId) (h q1 q2 q3 q4 q5 q6 q7 q8 q9 q10 q11 q12 q13 q14 q15 q16 q17 q18 q19 q20 q21 q22 q23 q24 q25 q26 q27 q28 q29 q30 : Nat) : (bigR ct h q1 q2 q3 q4 q5 q6 q7 q8 q9 q10 q11 q12 q13 q14 q15 q16 q17 q18 q19 q20 q21 q22 q23 q24 q25 q26 q27 q28 q29 q30)[21]? = some ((fun k => [h, q1, q2, q3, q4, q5, q6, q7, q8, q9, q10, q11, q12, q13, q14, q15, q16, q17, q18, q19, q20, q21, q22, q23, q24, q25, q26, q27, q28, q29, q30].getD k 0) 21, cR ct (fun k => [h, q1, q2, q3, q4, q5, q6, q7, q8, q9, q10, q11, q12, q13, q14, q15, q16, q17, q18, q19, q20, q21, q22, q23, q24, q25, q26, q27, q28, q29, q30].getD k 0) M0 21) := rfl
set_option maxHeartbeats 1000000 in
set_option maxRecDepth 20000 in
theorem hR_22 (ct : Nat → ClassId) (h q1 q2 q3 q4 q5 q6 q7 q8 q9 q10 q11 q12 q13 q14 q15 q16 q17 q18 q19 q20 q21 q22 q23 q24 q25 q26 q27 q28 q29 q30 : Nat) : (bigR ct h q1 q2 q3 q4 q5 q6 q7 q8 q9 q10 q11 q12 q13 q14 q15 q16 q17 q18 q19 q20 q21 q22 q23 q24 q25 q26 q27 q28 q29 q30)[22]? = some ((fun k => [h, q1, q2, q3, q4, q5, q6, q7, q8, q9, q10, q11, q12, q13, q14, q15, q16, q17, q18, q19, q20, q21, q22, q23, q24, q25, q26, q27, q28, q29, q30].getD k 0) 22, cR ct (fun k => [h, q1, q2, q3, q4, q5, q6, q7, q8, q9, q10, q11, q12, q13, q14, q15, q16, q17, q18, q19, q20, q21, q22, q23, q24, q25, q26, q27, q28, q29, q30].getD k 0) M0 22) := rfl
set_option maxHeartbeats 1000000 in
set_option maxRecDepth 20000 in
theorem hR_23 (ct : Nat → ClassId) (h q1 q2 q3 q4 q5 q6 q7 q8 q9 q10 q11 q12 q13 q14 q15 q16 q17 q18 q19 q20 q21 q22 q23 q24 q25 q26 q27 q28 q29 q30 : Nat) : (bigR ct h q1 q2 q3 q4 q5 q6 q7 q8 q9 q10 q11 q12 q13 q14 q15 q16 q17 q18 q19 q20 q21 q22 q23 q24 q25 q26 q27 q28 q29 q30)[23]? = some ((fun k => [h, q1, q2, q3, q4, q5, q6, q7, q8, q9, q10, q11, q12, q13, q14, q15, q16, q17, q18, q19, q20, q21, q22, q23, q24, q25, q26, q27, q28, q29, q30].getD k 0) 23, cR ct (fun k => [h, q1, q2, q3, q4, q5, q6, q7, q8, q9, q10, q11, q12, q13, q14, q15, q16, q17, q18, q19, q20, q21, q22, q23, q24, q25, q26, q27, q28, q29, q30].getD k 0) M0 23) := rfl
set_option maxHeartbeats 1000000 in
set_option maxRecDepth 20000 in
theorem hR_24 (ct : Nat → ClassId) (h q1 q2 q3 q4 q5 q6 q7 q8 q9 q10 q11 q12 q13 q14 q15 q16 q17 q18 q19 q20 q21 q22 q23 q24 q25 q26 q27 q28 q29 q30 : Nat) : (bigR ct h q1 q2 q3 q4 q5 q6 q7 q8 q9 q10 q11 q12 q13 q14 q15 q16 q17 q18 q19 q20 q21 q22 q23 q24 q25 q26 q27 q28 q29 q30)[24]? = some ((fun k => [h, q1, q2, q3, q4, q5, q6, q7, q8, q9, q10, q11, q12, q13, q14, q15, q16, q17, q18, q19, q20, q21, q22, q23, q24, q25, q26, q27, q28, q29, q30].getD k 0) 24, cR ct (fun k => [h, q1, q2, q3, q4, q5, q6, q7, q8, q9, q10, q11, q12, q13, q14, q15, q16, q17, q18, q19, q20, q21, q22, q23, q24, q25, q26, q27, q28, q29, q30].getD k 0) M0 24) := rfl
set_option maxHeartbeats 1000000 in
set_option maxRecDepth 20000 in
theorem hR_25 (ct : Nat → ClassId) (h q1 q2 q3 q4 q5 q6 q7 q8 q9 q10 q11 q12 q13 q14 q15 q16 q17 q18 q19 q20 q21 q22 q23 q24 q25 q26 q27 q28 q29 q30 : Nat) : (bigR ct h q1 q2 q3 q4 q5 q6 q7 q8 q9 q10 q11 q12 q13 q14 q15 q16 q17 q18 q19 q20 q21 q22 q23 q24 q25 q26 q27 q28 q29 q30)[25]? = some ((fun k => [h, q1, q2, q3, q4, q5, q6, q7, q8, q9, q10, q11, q12, q13, q14, q15, q16, q17, q18, q19, q20, q21, q22, q23, q24, q25, q26, q27, q28, q29, q30].getD k 0) 25, cR ct (fun k => [h, q1, q2, q3, q4, q5, q6, q7, q8, q9, q10, q11, q12, q13, q14, q15, q16, q17, q18, q19, q20, q21, q22, q23, q24, q25, q26, q27, q28, q29, q30].getD k 0) M0 25) := rfl
set_option maxHeartbeats 1000000 in
set_option maxRecDepth 20000 in
theorem hR_26 (ct : Nat → ClassId) (h q1 q2 q3 q4 q5 q6 q7 q8 q9 q10 q11 q12 q13 q14 q15 q16 q17 q18 q19 q20 q21 q22 q23 q24 q25 q26 q27 q28 q29 q30 : Nat) : (bigR ct h q1 q2 q3 q4 q5 q6 q7 q8 q9 q10 q11 q12 q13 q14 q15 q16 q17 q18 q19 q20 q21 q22 q23 q24 q25 q26 q27 q28 q29 q30)[26]? = some ((fun k => [h, q1, q2, q3, q4, q5, q6, q7, q8, q9, q10, q11, q12, q13, q14, q15, q16, q17, q18, q19, q20, q21, q22, q23, q24, q25, q26, q27, q28, q29, q30].getD k 0) 26, cR ct (fun k => [h, q1, q2, q3, q4, q5, q6, q7, q8, q9, q10, q11, q12, q13, q14, q15, q16, q17, q18, q19, q20, q21, q22, q23, q24, q25, q26, q27, q28, q29, q30].getD k 0) M0 26) := rfl
set_option maxHeartbeats 1000000 in
set_option maxRecDepth 20000 in
theorem hR_27 (ct : Nat → ClassId) (h q1 q2 q3 q4 q5 q6 q7 q8 q9 q10 q11 q12 q13 q14 q15 q16 q17 q18 q19 q20 q21 q22 q23 q24 q25 q26 q27 q28 q29 q30 : Nat) : (bigR ct h q1 q2 q3 q4 q5 q6 q7 q8 q9 q10 q11 q12 q13 q14 q15 q16 q17 q18 q19 q20 q21 q22 q23 q24 q25 q26 q27 q28 q29 q30)[27]? = some ((fun k => [h, q1, q2, q3, q4, q5, q6, q7, q8, q9, q10, q11, q12, q13, q14, q15, q16, q17, q18, q19, q20, q21, q22, q23, q24, q25, q26, q27, q28, q29, q30].getD k 0) 27, cR ct (fun k => [h, q1, q2, q3, q4, q5, q6, q7, q8, q9, q10, q11, q12, q13, q14, q15, q16, q17, q18, q19, q20, q21, q22, q23, q24, q25, q26, q27, q28, q29, q30].getD k 0) M0 27) := rfl
set_option maxHeartbeats 1000000 in
set_option maxRecDepth 20000 in
theorem hR_28 (ct : Nat → ClassId) (h q1 q2 q3 q4 q5 q6 q7 q8 q9 q10 q11 q12 q13 q14 q15 q16 q17 q18 q19 q20 q21 q22 q23 q24 q25 q26 q27 q28 q29 q30 : Nat) : (bigR ct h q1 q2 q3 q4 q5 q6 q7 q8 q9 q10 q11 q12 q13 q14 q15 q16 q17 q18 q19 q20 q21 q22 q23 q24 q25 q26 q27 q28 q29 q30)[28]? = some ((fun k => [h, q1, q2, q3, q4, q5, q6, q7, q8, q9, q10, q11, q12, q13, q14, q15, q16, q17, q18, q19, q20, q21, q22, q23, q24, q25, q26, q27, q28, q29, q30].getD k 0) 28, cR ct (fun k => [h, q1, q2, q3, q4, q5, q6, q7, q8, q9, q10, q11, q12, q13, q14, q15, q16, q17, q18, q19, q20, q21, q22, q23, q24, q25, q26, q27, q28, q29, q30].getD k 0) M0 28) := rfl
set_option maxHeartbeats 1000000 in
set_option maxRecDepth 20000 in
theorem hR_29 (ct : Nat → ClassId) (h q1 q2 q3 q4 q5 q6 q7 q8 q9 q10 q11 q12 q13 q14 q15 q16 q17 q18 q19 q20 q21 q22 q23 q24 q25 q26 q27 q28 q29 q30 : Nat) : (bigR ct h q1 q2 q3 q4 q5 q6 q7 q8 q9 q10 q11 q12 q13 q14 q15 q16 q17 q18 q19 q20 q21 q22 q23 q24 q25 q26 q27 q28 q29 q30)[29]? = some ((fun k => [h, q1, q2, q3, q4, q5, q6, q7, q8, q9, q10, q11, q12, q13, q14, q15, q16, q17, q18, q19, q20, q21, q22, q23, q24, q25, q26, q27, q28, q29, q30].getD k 0) 29, cR ct (fun k => [h, q1, q2, q3, q4, q5, q6, q7, q8, q9, q10, q11, q12, q13, q14, q15, q16, q17, q18, q19, q20, q21, q22, q23, q24, q25, q26, q27, q28, q29, q30].getD k 0) M0 29) := rfl
set_option maxHeartbeats 1000000 in
set_option maxRecDepth 20000 in
theorem hR_30 (ct : Nat → ClassId) (h q1 q2 q3 q4 q5 q6 q7 q8 q9 q10 q11 q12 q13 q14 q15 q16 q17 q18 q19 q20 q21 q22 q23 q24 q25 q26 q27 q28 q29 q30 : Nat) : (bigR ct h q1 q2 q3 q4 q5 q6 q7 q8 q9 q10 q11 q12 q13 q14 q15 q16 q17 q18 q19 q20 q21 q22 q23 q24 q25 q26 q27 q28 q29 q30)[30]? = some ((fun k => [h, q1, q2, q3, q4, q5, q6, q7, q8, q9, q10, q11, q12, q13, q14, q15, q16, q17, q18, q19, q20, q21, q22, q23, q24, q25, q26, q27, q28, q29, q30].getD k 0) 30, cR ct (fun k => [h, q1, q2, q3, q4, q5, q6, q7, q8, q9, q10, q11, q12, q13, q14, q15, q16, q17, q18, q19, q20, q21, q22, q23, q24, q25, q26, q27, q28, q29, q30].getD k 0) M0 30) := rfl
theorem hmR (ct : Nat → ClassId) (h q1 q2 q3 q4 q5 q6 q7 q8 q9 q10 q11 q12 q13 q14 q15 q16 q17 q18 q19 q20 q21 q22 q23 q24 q25 q26 q27 q28 q29 q30 : Nat) : ∀ k, k < 31 → (bigR ct h q1 q2 q3 q4 q5 q6 q7 q8 q9 q10 q11 q12 q13 q14 q15 q16 q17 q18 q19 q20 q21 q22 q23 q24 q25 q26 q27 q28 q29 q30)[fR k]? = some ((fun k => [h, q1, q2, q3, q4, q5, q6, q7, q8, q9, q10, q11, q12, q13, q14, q15, q16, q17, q18, q19, q20, q21, q22, q23, q24, q25, q26, q27, q28, q29, q30].getD k 0) k, cR ct (fun k => [h, q1, q2, q3, q4, q5, q6, q7, q8, q9, q10, q11, q12, q13, q14, q15, q16, q17, q18, q19, q20, q21, q22, q23, q24, q25, q26, q27, q28, q29, q30].getD k 0) M0 k) := fun k hk => match k, hk with
  | 0, _ => hR_0 ct h q1 q2 q3 q4 q5 q6 q7 q8 q9 q10 q11 q12 q13 q14 q15 q16 q17 q18 q19 q20 q21 q22 q23 q24 q25 q26 q27 q28 q29 q30
  | 1, _ => hR_1 ct h q1 q2 q3 q4 q5 q6 q7 q8 q9 q10 q11 q12 q13 q14 q15 q16 q17 q18 q19 q20 q21 q22 q23 q24 q25 q26 q27 q28 q29 q30
  | 2, _ => hR_2 ct h q1 q2 q3 q4 q5 q6 q7 q8 q9 q10 q11 q12 q13 q14 q15 q16 q17 q18 q19 q20 q21 q22 q23 q24 q25 q26 q27 q28 q29 q30
  | 3, _ => hR_3 ct h q1 q2 q3 q4 q5 q6 q7 q8 q9 q10 q11 q12 q13 q14 q15 q16 q17 q18 q19 q20 q21 q22 q23 q24 q25 q26 q27 q28 q29 q30
  | 4, _ => hR_4 ct h q1 q2 q3 q4 q5 q6 q7 q8 q9 q10 q11 q12 q13 q14 q15 q16 q17 q18 q19 q20 q21 q22 q23 q24 q25 q26 q27 q28 q29 q30
  | 5, _ => hR_5 ct h q1 q2 q3 q4 q5 q6 q7 q8 q9 q10 q11 q12 q13 q14 q15 q16 q17 q18 q19 q20 q21 q22 q23 q24 q25 q26 q27 q28 q29 q30
  | 6, _ => hR_6 ct h q1 q2 q3 q4 q5 q6 q7 q8 q9 q10 q11 q12 q13 q14 q15 q16 q17 q18 q19 q20 q21 q22 q23 q24 q25 q26 q27 q28 q29 q30
  | 7, _ => hR_7 ct h q1 q2 q3 q4 q5 q6 q7 q8 q9 q10 q11 q12 q13 q14 q15 q16 q17 q18 q19 q20 q21 q22 q23 q24 q25 q26 q27 q28 q29 q30
  | 8, _ => hR_8 ct h q1 q2 q3 q4 q5 q6 q7 q8 q9 q10 q11 q12 q13 q14 q15 q16 q17 q18 q19 q20 q21 q22 q23 q24 q25 q26 q27 q28 q29 q30
  | 9, _ => hR_9 ct h q1 q2 q3 q4 q5 q6 q7 q8 q9 q10 q11 q12 q13 q14 q15 q16 q17 q18 q19 q20 q21 q22 q23 q24 q25 q26 q27 q28 q29 q30
  | 10, _ => hR_10 ct h q1 q2 q3 q4 q5 q6 q7 q8 q9 q10 q11 q12 q13 q14 q15 q16 q17 q18 q19 q20 q21 q22 q23 q24 q25 q26 q27 q28 q29 q30
  | 11, _ => hR_11 ct h q1 q2 q3 q4 q5 q6 q7 q8 q9 q10 q11 q12 q13 q14 q15 q16 q17 q18 q19 q20 q21 q22 q23 q24 q25 q26 q27 q28 q29 q30
  | 12, _ => hR_12 ct h q1 q2 q3 q4 q5 q6 q7 q8 q9 q10 q11 q12 q13 q14 q15 q16 q17 q18 q19 q20 q21 q22 q23 q24 q25 q26 q27 q28 q29 q30
  | 13, _ => hR_13 ct h q1 q2 q3 q4 q5 q6 q7 q8 q9 q10 q11 q12 q13 q14 q15 q16 q17 q18 q19 q20 q21 q22 q23 q24 q25 q26 q27 q28 q29 q30
  | 14, _ => hR_14 ct h q1 q2 q3 q4 q5 q6 q7 q8 q9 q10 q11 q12 q13 q14 q15 q16 q17 q18 q19 q20 q21 q22 q23 q24 q25 q26 q27 q28 q29 q30
  | 15, _ => hR_15 ct h q1 q2 q3 q4 q5 q6 q7 q8 q9 q10 q11 q12 q13 q14 q15 q16 q17 q18 q19 q20 q21 q22 q23 q24 q25 q26 q27 q28 q29 q30
  | 16, _ => hR_16 ct h q1 q2 q3 q4 q5 q6 q7 q8 q9 q10 q11 q12 q13 q14 q15 q16 q17 q18 q19 q20 q21 q22 q23 q24 q25 q26 q27 q28 q29 q30
  | 17, _ => hR_17 ct h q1 q2 q3 q4 q5 q6 q7 q8 q9 q10 q11 q12 q13 q14 q15 q16 q17 q18 q19 q20 q21 q22 q23 q24 q25 q26 q27 q28 q29 q30
  | 18, _ => hR_18 ct h q1 q2 q3 q4 q5 q6 q7 q8 q9 q10 q11 q12 q13 q14 q15 q16 q17 q18 q19 q20 q21 q22 q23 q24 q25 q26 q27 q28 q29 q30
  | 19, _ => hR_19 ct h q1 q2 q3 q4 q5 q6 q7 q8 q9 q10 q11 q12 q13 q14 q15 q16 q17 q18 q19 q20 q21 q22 q23 q24 q25 q26 q27 q28 q29 q30
  | 20, _ => hR_20 ct h q1 q2 q3 q4 q5 q6 q7 q8 q9 q10 q11 q12 q13 q14 q15 q16 q17 q18 q19 q20 q21 q22 q23 q24 q25 q26 q27 q28 q29 q30
  | 21, _ => hR_21 ct h q1 q2 q3 q4 q5 q6 q7 q8 q9 q10 q11 q12 q13 q14 q15 q16 q17 q18 q19 q20 q21 q22 q23 q24 q25 q26 q27 q28 q29 q30
  | 22, _ => hR_22 ct h q1 q2 q3 q4 q5 q6 q7 q8 q9 q10 q11 q12 q13 q14 q15 q16 q17 q18 q19 q20 q21 q22 q23 q24 q25 q26 q27 q28 q29 q30
  | 23, _ => hR_23 ct h q1 q2 q3 q4 q5 q6 q7 q8 q9 q10 q11 q12 q13 q14 q15 q16 q17 q18 q19 q20 q21 q22 q23 q24 q25 q26 q27 q28 q29 q30
  | 24, _ => hR_24 ct h q1 q2 q3 q4 q5 q6 q7 q8 q9 q10 q11 q12 q13 q14 q15 q16 q17 q18 q19 q20 q21 q22 q23 q24 q25 q26 q27 q28 q29 q30
  | 25, _ => hR_25 ct h q1 q2 q3 q4 q5 q6 q7 q8 q9 q10 q11 q12 q13 q14 q15 q16 q17 q18 q19 q20 q21 q22 q23 q24 q25 q26 q27 q28 q29 q30
  | 26, _ => hR_26 ct h q1 q2 q3 q4 q5 q6 q7 q8 q9 q10 q11 q12 q13 q14 q15 q16 q17 q18 q19 q20 q21 q22 q23 q24 q25 q26 q27 q28 q29 q30
  | 27, _ => hR_27 ct h q1 q2 q3 q4 q5 q6 q7 q8 q9 q10 q11 q12 q13 q14 q15 q16 q17 q18 q19 q20 q21 q22 q23 q24 q25 q26 q27 q28 q29 q30
  | 28, _ => hR_28 ct h q1 q2 q3 q4 q5 q6 q7 q8 q9 q10 q11 q12 q13 q14 q15 q16 q17 q18 q19 q20 q21 q22 q23 q24 q25 q26 q27 q28 q29 q30
  | 29, _ => hR_29 ct h q1 q2 q3 q4 q5 q6 q7 q8 q9 q10 q11 q12 q13 q14 q15 q16 q17 q18 q19 q20 q21 q22 q23 q24 q25 q26 q27 q28 q29 q30
  | 30, _ => hR_30 ct h q1 q2 q3 q4 q5 q6 q7 q8 q9 q10 q11 q12 q13 q14 q15 q16 q17 q18 q19 q20 q21 q22 q23 q24 q25 q26 q27 q28 q29 q30
  | k + 31, h => absurd h (by omega)
