/-! ===== the first family, read ===== -/
def wS0 : Nat → Int32 := bgW
def wS1 : Nat → Int32 := perW wS0 0 0 60 9
def wS2 : Nat → Int32 := perW wS1 1 1 30 4
def wS3 : Nat → Int32 := perW wS2 2 3 20 2
def wS4 : Nat → Int32 := perW wS3 3 4 5 3
def wS5 : Nat → Int32 := perW wS4 4 2 40 6
def wS6 : Nat → Int32 := gooW wS5 0 0 0 20 8
def wS7 : Nat → Int32 := gooW wS6 1 1 0 9 0
def wS8 : Nat → Int32 := gooW wS7 2 2 2 12 0
def wS9 : Nat → Int32 := gooW wS8 3 0 1 7 3
def wS10 : Nat → Int32 := gooW wS9 4 3 3 40 20
def wS11 : Nat → Int32 := gooW wS10 5 0 4 15 5
def wS12 : Nat → Int32 := up wS11 (53 + (6 * 0 + 1)) (nI 8)
def wS13 : Nat → Int32 := up wS12 (53 + (6 * 1 + 0)) (nI 6)
def wS14 : Nat → Int32 := up wS13 (53 + (6 * 2 + 3)) (nI 10)
def wS15 : Nat → Int32 := up wS14 (53 + (6 * 3 + 2)) (nI 9)
def wS16 : Nat → Int32 := up wS15 (53 + (6 * 4 + 0)) (nI 5)
def wS17 : Nat → Int32 := up wS16 (53 + (6 * 0 + 4)) (nI 5)
def wS18 : Nat → Int32 := up wS17 2 (nI 8)
theorem ff_s {tx : Nat → Nat} {n k a a1 : Nat} {q q1 : Dr} (ha : a < n) (hi : itQ tx n a q = some q1) (he : itE tx n a = a1) : ffQ tx n (k + 1) a q = ffQ tx n k a1 q1 := by
  rw [ffQ, if_pos ha, hi, he]
theorem ff_e {tx : Nat → Nat} {n k a : Nat} {q : Dr} (ha : ¬ a < n) : ffQ tx n k a q = (-4, q) := by
  cases k with
  | zero => rfl
  | succ k => rw [ffQ, if_neg ha]
theorem itQ_p {tx : Nat → Nat} {n a N G v0 v1 v2 : Nat} {w : Nat → Int32} (h : iOk tx n a) (hs : sgn tx n a = 112) (h0 : itV tx n a 0 = v0) (h1 : itV tx n a 1 = v1) (h2 : itV tx n a 2 = v2) (c : N < 6 ∧ v0 ≤ 4 ∧ v2 ≤ 20) : itQ tx n a (w, N, G) = some (perW w N v0 v1 v2, N + 1, G) := by
  unfold itQ
  rw [if_pos h, hs]
  unfold tellQ
  rw [if_pos rfl, h0, h1, h2]
  exact if_pos c
theorem itQ_g {tx : Nat → Nat} {n a N G v0 v1 v2 v3 : Nat} {w : Nat → Int32} (h : iOk tx n a) (hs : sgn tx n a = 103) (h0 : itV tx n a 0 = v0) (h1 : itV tx n a 1 = v1) (h2 : itV tx n a 2 = v2) (h3 : itV tx n a 3 = v3) (c : G < 8 ∧ v0 ≤ 3 ∧ v1 < N ∧ 1 ≤ v2 ∧ v2 ≤ 40 ∧ v3 ≤ 20) : itQ tx n a (w, N, G) = some (gooW w G v0 v1 v2 v3, N, G + 1) := by
  unfold itQ
  rw [if_pos h, hs]
  unfold tellQ
  rw [if_neg (by decide), if_pos rfl, h0, h1, h2, h3]
  exact if_pos c
theorem itQ_v {tx : Nat → Nat} {n a N G v0 v1 v2 : Nat} {w : Nat → Int32} (h : iOk tx n a) (hs : sgn tx n a = 118) (h0 : itV tx n a 0 = v0) (h1 : itV tx n a 1 = v1) (h2 : itV tx n a 2 = v2) (c : v0 ≠ v1 ∧ v0 < N ∧ v1 < N ∧ v2 ≤ 20) : itQ tx n a (w, N, G) = some (up w (53 + (6 * v0 + v1)) (nI v2), N, G) := by
  unfold itQ
  rw [if_pos h, hs]
  unfold tellQ
  rw [if_neg (by decide), if_neg (by decide), if_pos rfl, h0, h1, h2]
  exact if_pos c
theorem itQ_t {tx : Nat → Nat} {n a N G v0 : Nat} {w : Nat → Int32} (h : iOk tx n a) (hs : sgn tx n a = 116) (h0 : itV tx n a 0 = v0) (c : 1 ≤ v0 ∧ v0 ≤ 20) : itQ tx n a (w, N, G) = some (up w 2 (nI v0), N, G) := by
  unfold itQ
  rw [if_pos h, hs]
  unfold tellQ
  rw [if_neg (by decide), if_neg (by decide), if_neg (by decide), if_pos rfl, h0]
  exact if_pos c
set_option maxRecDepth 100000 in
theorem ft_0 : 0 < tL0 ∧ iOk tC tL0 0 ∧ sgn tC tL0 0 = 112 ∧ itE tC tL0 0 = 8 ∧ itV tC tL0 0 0 = 0 ∧ itV tC tL0 0 1 = 60 ∧ itV tC tL0 0 2 = 9 := by decide +kernel
set_option maxRecDepth 100000 in
theorem ft_1 : 8 < tL0 ∧ iOk tC tL0 8 ∧ sgn tC tL0 8 = 112 ∧ itE tC tL0 8 = 16 ∧ itV tC tL0 8 0 = 1 ∧ itV tC tL0 8 1 = 30 ∧ itV tC tL0 8 2 = 4 := by decide +kernel
set_option maxRecDepth 100000 in
theorem ft_2 : 16 < tL0 ∧ iOk tC tL0 16 ∧ sgn tC tL0 16 = 112 ∧ itE tC tL0 16 = 24 ∧ itV tC tL0 16 0 = 3 ∧ itV tC tL0 16 1 = 20 ∧ itV tC tL0 16 2 = 2 := by decide +kernel
set_option maxRecDepth 100000 in
theorem ft_3 : 24 < tL0 ∧ iOk tC tL0 24 ∧ sgn tC tL0 24 = 112 ∧ itE tC tL0 24 = 31 ∧ itV tC tL0 24 0 = 4 ∧ itV tC tL0 24 1 = 5 ∧ itV tC tL0 24 2 = 3 := by decide +kernel
set_option maxRecDepth 100000 in
theorem ft_4 : 31 < tL0 ∧ iOk tC tL0 31 ∧ sgn tC tL0 31 = 112 ∧ itE tC tL0 31 = 39 ∧ itV tC tL0 31 0 = 2 ∧ itV tC tL0 31 1 = 40 ∧ itV tC tL0 31 2 = 6 := by decide +kernel
set_option maxRecDepth 100000 in
theorem ft_5 : 39 < tL0 ∧ iOk tC tL0 39 ∧ sgn tC tL0 39 = 103 ∧ itE tC tL0 39 = 49 ∧ itV tC tL0 39 0 = 0 ∧ itV tC tL0 39 1 = 0 ∧ itV tC tL0 39 2 = 20 ∧ itV tC tL0 39 3 = 8 := by decide +kernel
set_option maxRecDepth 100000 in
theorem ft_6 : 49 < tL0 ∧ iOk tC tL0 49 ∧ sgn tC tL0 49 = 103 ∧ itE tC tL0 49 = 58 ∧ itV tC tL0 49 0 = 1 ∧ itV tC tL0 49 1 = 0 ∧ itV tC tL0 49 2 = 9 ∧ itV tC tL0 49 3 = 0 := by decide +kernel
set_option maxRecDepth 100000 in
theorem ft_7 : 58 < tL0 ∧ iOk tC tL0 58 ∧ sgn tC tL0 58 = 103 ∧ itE tC tL0 58 = 68 ∧ itV tC tL0 58 0 = 2 ∧ itV tC tL0 58 1 = 2 ∧ itV tC tL0 58 2 = 12 ∧ itV tC tL0 58 3 = 0 := by decide +kernel
set_option maxRecDepth 100000 in
theorem ft_8 : 68 < tL0 ∧ iOk tC tL0 68 ∧ sgn tC tL0 68 = 103 ∧ itE tC tL0 68 = 77 ∧ itV tC tL0 68 0 = 0 ∧ itV tC tL0 68 1 = 1 ∧ itV tC tL0 68 2 = 7 ∧ itV tC tL0 68 3 = 3 := by decide +kernel
set_option maxRecDepth 100000 in
theorem ft_9 : 77 < tL0 ∧ iOk tC tL0 77 ∧ sgn tC tL0 77 = 103 ∧ itE tC tL0 77 = 88 ∧ itV tC tL0 77 0 = 3 ∧ itV tC tL0 77 1 = 3 ∧ itV tC tL0 77 2 = 40 ∧ itV tC tL0 77 3 = 20 := by decide +kernel
set_option maxRecDepth 100000 in
theorem ft_10 : 88 < tL0 ∧ iOk tC tL0 88 ∧ sgn tC tL0 88 = 103 ∧ itE tC tL0 88 = 98 ∧ itV tC tL0 88 0 = 0 ∧ itV tC tL0 88 1 = 4 ∧ itV tC tL0 88 2 = 15 ∧ itV tC tL0 88 3 = 5 := by decide +kernel
set_option maxRecDepth 100000 in
theorem ft_11 : 98 < tL0 ∧ iOk tC tL0 98 ∧ sgn tC tL0 98 = 118 ∧ itE tC tL0 98 = 105 ∧ itV tC tL0 98 0 = 0 ∧ itV tC tL0 98 1 = 1 ∧ itV tC tL0 98 2 = 8 := by decide +kernel
set_option maxRecDepth 100000 in
theorem ft_12 : 105 < tL0 ∧ iOk tC tL0 105 ∧ sgn tC tL0 105 = 118 ∧ itE tC tL0 105 = 112 ∧ itV tC tL0 105 0 = 1 ∧ itV tC tL0 105 1 = 0 ∧ itV tC tL0 105 2 = 6 := by decide +kernel
set_option maxRecDepth 100000 in
theorem ft_13 : 112 < tL0 ∧ iOk tC tL0 112 ∧ sgn tC tL0 112 = 118 ∧ itE tC tL0 112 = 120 ∧ itV tC tL0 112 0 = 2 ∧ itV tC tL0 112 1 = 3 ∧ itV tC tL0 112 2 = 10 := by decide +kernel
set_option maxRecDepth 100000 in
theorem ft_14 : 120 < tL0 ∧ iOk tC tL0 120 ∧ sgn tC tL0 120 = 118 ∧ itE tC tL0 120 = 127 ∧ itV tC tL0 120 0 = 3 ∧ itV tC tL0 120 1 = 2 ∧ itV tC tL0 120 2 = 9 := by decide +kernel
set_option maxRecDepth 100000 in
theorem ft_15 : 127 < tL0 ∧ iOk tC tL0 127 ∧ sgn tC tL0 127 = 118 ∧ itE tC tL0 127 = 134 ∧ itV tC tL0 127 0 = 4 ∧ itV tC tL0 127 1 = 0 ∧ itV tC tL0 127 2 = 5 := by decide +kernel
set_option maxRecDepth 100000 in
theorem ft_16 : 134 < tL0 ∧ iOk tC tL0 134 ∧ sgn tC tL0 134 = 118 ∧ itE tC tL0 134 = 141 ∧ itV tC tL0 134 0 = 0 ∧ itV tC tL0 134 1 = 4 ∧ itV tC tL0 134 2 = 5 := by decide +kernel
set_option maxRecDepth 100000 in
theorem ft_17 : 141 < tL0 ∧ iOk tC tL0 141 ∧ sgn tC tL0 141 = 116 ∧ itE tC tL0 141 = 144 ∧ itV tC tL0 141 0 = 8 := by decide +kernel
theorem ft_end : ¬ 144 < tL0 := by decide +kernel
theorem ff_all : ffQ tC tL0 200 0 q0 = (-4, (wS18, 5, 6)) := by
  show ffQ tC tL0 200 0 (wS0, 0, 0) = _
  rw [ff_s (q := (wS0, 0, 0)) (q1 := (wS1, 1, 0)) ft_0.1 (itQ_p ft_0.2.1 ft_0.2.2.1 ft_0.2.2.2.2.1 ft_0.2.2.2.2.2.1 ft_0.2.2.2.2.2.2 (by decide)) ft_0.2.2.2.1]
  rw [ff_s (q := (wS1, 1, 0)) (q1 := (wS2, 2, 0)) ft_1.1 (itQ_p ft_1.2.1 ft_1.2.2.1 ft_1.2.2.2.2.1 ft_1.2.2.2.2.2.1 ft_1.2.2.2.2.2.2 (by decide)) ft_1.2.2.2.1]
  rw [ff_s (q := (wS2, 2, 0)) (q1 := (wS3, 3, 0)) ft_2.1 (itQ_p ft_2.2.1 ft_2.2.2.1 ft_2.2.2.2.2.1 ft_2.2.2.2.2.2.1 ft_2.2.2.2.2.2.2 (by decide)) ft_2.2.2.2.1]
  rw [ff_s (q := (wS3, 3, 0)) (q1 := (wS4, 4, 0)) ft_3.1 (itQ_p ft_3.2.1 ft_3.2.2.1 ft_3.2.2.2.2.1 ft_3.2.2.2.2.2.1 ft_3.2.2.2.2.2.2 (by decide)) ft_3.2.2.2.1]
  rw [ff_s (q := (wS4, 4, 0)) (q1 := (wS5, 5, 0)) ft_4.1 (itQ_p ft_4.2.1 ft_4.2.2.1 ft_4.2.2.2.2.1 ft_4.2.2.2.2.2.1 ft_4.2.2.2.2.2.2 (by decide)) ft_4.2.2.2.1]
  rw [ff_s (q := (wS5, 5, 0)) (q1 := (wS6, 5, 1)) ft_5.1 (itQ_g ft_5.2.1 ft_5.2.2.1 ft_5.2.2.2.2.1 ft_5.2.2.2.2.2.1 ft_5.2.2.2.2.2.2.1 ft_5.2.2.2.2.2.2.2 (by decide)) ft_5.2.2.2.1]
  rw [ff_s (q := (wS6, 5, 1)) (q1 := (wS7, 5, 2)) ft_6.1 (itQ_g ft_6.2.1 ft_6.2.2.1 ft_6.2.2.2.2.1 ft_6.2.2.2.2.2.1 ft_6.2.2.2.2.2.2.1 ft_6.2.2.2.2.2.2.2 (by decide)) ft_6.2.2.2.1]
  rw [ff_s (q := (wS7, 5, 2)) (q1 := (wS8, 5, 3)) ft_7.1 (itQ_g ft_7.2.1 ft_7.2.2.1 ft_7.2.2.2.2.1 ft_7.2.2.2.2.2.1 ft_7.2.2.2.2.2.2.1 ft_7.2.2.2.2.2.2.2 (by decide)) ft_7.2.2.2.1]
  rw [ff_s (q := (wS8, 5, 3)) (q1 := (wS9, 5, 4)) ft_8.1 (itQ_g ft_8.2.1 ft_8.2.2.1 ft_8.2.2.2.2.1 ft_8.2.2.2.2.2.1 ft_8.2.2.2.2.2.2.1 ft_8.2.2.2.2.2.2.2 (by decide)) ft_8.2.2.2.1]
  rw [ff_s (q := (wS9, 5, 4)) (q1 := (wS10, 5, 5)) ft_9.1 (itQ_g ft_9.2.1 ft_9.2.2.1 ft_9.2.2.2.2.1 ft_9.2.2.2.2.2.1 ft_9.2.2.2.2.2.2.1 ft_9.2.2.2.2.2.2.2 (by decide)) ft_9.2.2.2.1]
  rw [ff_s (q := (wS10, 5, 5)) (q1 := (wS11, 5, 6)) ft_10.1 (itQ_g ft_10.2.1 ft_10.2.2.1 ft_10.2.2.2.2.1 ft_10.2.2.2.2.2.1 ft_10.2.2.2.2.2.2.1 ft_10.2.2.2.2.2.2.2 (by decide)) ft_10.2.2.2.1]
  rw [ff_s (q := (wS11, 5, 6)) (q1 := (wS12, 5, 6)) ft_11.1 (itQ_v ft_11.2.1 ft_11.2.2.1 ft_11.2.2.2.2.1 ft_11.2.2.2.2.2.1 ft_11.2.2.2.2.2.2 (by decide)) ft_11.2.2.2.1]
  rw [ff_s (q := (wS12, 5, 6)) (q1 := (wS13, 5, 6)) ft_12.1 (itQ_v ft_12.2.1 ft_12.2.2.1 ft_12.2.2.2.2.1 ft_12.2.2.2.2.2.1 ft_12.2.2.2.2.2.2 (by decide)) ft_12.2.2.2.1]
  rw [ff_s (q := (wS13, 5, 6)) (q1 := (wS14, 5, 6)) ft_13.1 (itQ_v ft_13.2.1 ft_13.2.2.1 ft_13.2.2.2.2.1 ft_13.2.2.2.2.2.1 ft_13.2.2.2.2.2.2 (by decide)) ft_13.2.2.2.1]
  rw [ff_s (q := (wS14, 5, 6)) (q1 := (wS15, 5, 6)) ft_14.1 (itQ_v ft_14.2.1 ft_14.2.2.1 ft_14.2.2.2.2.1 ft_14.2.2.2.2.2.1 ft_14.2.2.2.2.2.2 (by decide)) ft_14.2.2.2.1]
  rw [ff_s (q := (wS15, 5, 6)) (q1 := (wS16, 5, 6)) ft_15.1 (itQ_v ft_15.2.1 ft_15.2.2.1 ft_15.2.2.2.2.1 ft_15.2.2.2.2.2.1 ft_15.2.2.2.2.2.2 (by decide)) ft_15.2.2.2.1]
  rw [ff_s (q := (wS16, 5, 6)) (q1 := (wS17, 5, 6)) ft_16.1 (itQ_v ft_16.2.1 ft_16.2.2.1 ft_16.2.2.2.2.1 ft_16.2.2.2.2.2.1 ft_16.2.2.2.2.2.2 (by decide)) ft_16.2.2.2.1]
  rw [ff_s (q := (wS17, 5, 6)) (q1 := (wS18, 5, 6)) ft_17.1 (itQ_t ft_17.2.1 ft_17.2.2.1 ft_17.2.2.2.2 (by decide)) ft_17.2.2.2.1]
  exact ff_e ft_end
