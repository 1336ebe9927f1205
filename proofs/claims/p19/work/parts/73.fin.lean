/-! the world behind both constructors, by number -/
def gw_AL (b0 b7 b15 b22 b35 b43 e0 t0 s0 l0 k0 e1 t1 s1 l1 k1 e2 t2 s2 l2 k2 e3 t3 s3 l3 k3 e4 t4 s4 l4 k4 e5 t5 s5 l5 k5 e6 t6 s6 l6 k6 e7 t7 s7 l7 k7 o0 o1 o2 o3 m0 m1 : Nat) : List Nat := [b0, b7, b15, b22, b35, b43, o0, o1, o2, o3, e0, e1, e2, e3, e4, e5, e6, e7, t0, t1, t2, t3, t4, t5, t6, t7, s0, s1, s2, s3, s4, s5, s6, s7, l0, l1, l2, l3, l4, l5, l6, l7, k0, k1, k2, k3, k4, k5, k6, k7, m0, m1]
def gw_ad (b0 b7 b15 b22 b35 b43 e0 t0 s0 l0 k0 e1 t1 s1 l1 k1 e2 t2 s2 l2 k2 e3 t3 s3 l3 k3 e4 t4 s4 l4 k4 e5 t5 s5 l5 k5 e6 t6 s6 l6 k6 e7 t7 s7 l7 k7 o0 o1 o2 o3 m0 m1 : Nat) : Nat → Nat := fun k => (gw_AL b0 b7 b15 b22 b35 b43 e0 t0 s0 l0 k0 e1 t1 s1 l1 k1 e2 t2 s2 l2 k2 e3 t3 s3 l3 k3 e4 t4 s4 l4 k4 e5 t5 s5 l5 k5 e6 t6 s6 l6 k6 e7 t7 s7 l7 k7 o0 o1 o2 o3 m0 m1).getD k 0
def gw_WL (q : Nat → ClassId) (b0 b7 b15 b22 b35 b43 e0 t0 s0 l0 k0 e1 t1 s1 l1 k1 e2 t2 s2 l2 k2 e3 t3 s3 l3 k3 e4 t4 s4 l4 k4 e5 t5 s5 l5 k5 e6 t6 s6 l6 k6 e7 t7 s7 l7 k7 o0 o1 o2 o3 m0 m1 : Nat) (f g : Nat → Option Nat) : va_W := [(b0, .inr (4, [.ref b7, .ref b15, .ref b22, .ref b35, .ref b43, .int 0, .int 0, .int 0, .int 0])),
  (b7, .inl (q 3, 8, .inr (.inr (.inr (.inr f))))),
  (b15, .inl (q 4, 4, .inr (.inr (.inr (.inr g))))),
  (b22, .inr (1, [.int 0, .int 1])),
  (b35, .inl (q 1, 32, .inr (.inl (fun _ => 0)))),
  (b43, .inl (q 1, 9, .inr (.inl (fun _ => 0)))),
  (e0, .inr (0, [.ref t0, .ref l0, .ref k0, .int 0, .int 0, .int 0, .int 0, .int 0, .int 64, .int 0, .long 0])),
  (t0, .inr (3, [.ref s0, .int 0, .int 0])),
  (s0, .inl (q 0, 64, .inl (fun _ => 0))),
  (l0, .inl (q 1, 64, .inr (.inl (fun _ => 0)))),
  (k0, .inl (q 1, 64, .inr (.inl (fun _ => 0)))),
  (e1, .inr (0, [.ref t1, .ref l1, .ref k1, .int 0, .int 0, .int 0, .int 0, .int 0, .int 64, .int 0, .long 0])),
  (t1, .inr (3, [.ref s1, .int 0, .int 0])),
  (s1, .inl (q 0, 64, .inl (fun _ => 0))),
  (l1, .inl (q 1, 64, .inr (.inl (fun _ => 0)))),
  (k1, .inl (q 1, 64, .inr (.inl (fun _ => 0)))),
  (e2, .inr (0, [.ref t2, .ref l2, .ref k2, .int 0, .int 0, .int 0, .int 0, .int 0, .int 64, .int 0, .long 0])),
  (t2, .inr (3, [.ref s2, .int 0, .int 0])),
  (s2, .inl (q 0, 64, .inl (fun _ => 0))),
  (l2, .inl (q 1, 64, .inr (.inl (fun _ => 0)))),
  (k2, .inl (q 1, 64, .inr (.inl (fun _ => 0)))),
  (e3, .inr (0, [.ref t3, .ref l3, .ref k3, .int 0, .int 0, .int 0, .int 0, .int 0, .int 64, .int 0, .long 0])),
  (t3, .inr (3, [.ref s3, .int 0, .int 0])),
  (s3, .inl (q 0, 64, .inl (fun _ => 0))),
  (l3, .inl (q 1, 64, .inr (.inl (fun _ => 0)))),
  (k3, .inl (q 1, 64, .inr (.inl (fun _ => 0)))),
  (e4, .inr (0, [.ref t4, .ref l4, .ref k4, .int 0, .int 0, .int 0, .int 0, .int 0, .int 64, .int 0, .long 0])),
  (t4, .inr (3, [.ref s4, .int 0, .int 0])),
  (s4, .inl (q 0, 64, .inl (fun _ => 0))),
  (l4, .inl (q 1, 64, .inr (.inl (fun _ => 0)))),
  (k4, .inl (q 1, 64, .inr (.inl (fun _ => 0)))),
  (e5, .inr (0, [.ref t5, .ref l5, .ref k5, .int 0, .int 0, .int 0, .int 0, .int 0, .int 64, .int 0, .long 0])),
  (t5, .inr (3, [.ref s5, .int 0, .int 0])),
  (s5, .inl (q 0, 64, .inl (fun _ => 0))),
  (l5, .inl (q 1, 64, .inr (.inl (fun _ => 0)))),
  (k5, .inl (q 1, 64, .inr (.inl (fun _ => 0)))),
  (e6, .inr (0, [.ref t6, .ref l6, .ref k6, .int 0, .int 0, .int 0, .int 0, .int 0, .int 64, .int 0, .long 0])),
  (t6, .inr (3, [.ref s6, .int 0, .int 0])),
  (s6, .inl (q 0, 64, .inl (fun _ => 0))),
  (l6, .inl (q 1, 64, .inr (.inl (fun _ => 0)))),
  (k6, .inl (q 1, 64, .inr (.inl (fun _ => 0)))),
  (e7, .inr (0, [.ref t7, .ref l7, .ref k7, .int 0, .int 0, .int 0, .int 0, .int 0, .int 64, .int 0, .long 0])),
  (t7, .inr (3, [.ref s7, .int 0, .int 0])),
  (s7, .inl (q 0, 64, .inl (fun _ => 0))),
  (l7, .inl (q 1, 64, .inr (.inl (fun _ => 0)))),
  (k7, .inl (q 1, 64, .inr (.inl (fun _ => 0)))),
  (o0, .inr (2, [.int 0, .int 0, .int 2])),
  (o1, .inr (2, [.int 0, .int 0, .int 2])),
  (o2, .inr (2, [.int 0, .int 0, .int 2])),
  (o3, .inr (2, [.int 0, .int 0, .int 2])),
  (m0, .inl (q 0, 5, .inl (fun _ => 0))),
  (m1, .inl (q 0, 16, .inl (fun _ => 0)))]
def gw_piL : List Nat := [0, 1, 2, 3, 4, 5, 46, 47, 48, 49, 6, 11, 16, 21, 26, 31, 36, 41, 7, 12, 17, 22, 27, 32, 37, 42, 8, 13, 18, 23, 28, 33, 38, 43, 9, 14, 19, 24, 29, 34, 39, 44, 10, 15, 20, 25, 30, 35, 40, 45, 50, 51]
def gw_pi (k : Nat) : Nat := gw_piL.getD k 0
theorem gw_pi_inj : ∀ i, i < 52 → ∀ j, j < 52 → gw_pi i = gw_pi j → i = j := by decide +kernel
section GF
variable {q : Nat → ClassId} {b0 b7 b15 b22 b35 b43 e0 t0 s0 l0 k0 e1 t1 s1 l1 k1 e2 t2 s2 l2 k2 e3 t3 s3 l3 k3 e4 t4 s4 l4 k4 e5 t5 s5 l5 k5 e6 t6 s6 l6 k6 e7 t7 s7 l7 k7 o0 o1 o2 o3 m0 m1 : Nat}
set_option maxHeartbeats 4000000 in
set_option maxRecDepth 100000 in
theorem gw_F0 : ∀ k, 0 ≤ k → k < 6 → (gw_WL q b0 b7 b15 b22 b35 b43 e0 t0 s0 l0 k0 e1 t1 s1 l1 k1 e2 t2 s2 l2 k2 e3 t3 s3 l3 k3 e4 t4 s4 l4 k4 e5 t5 s5 l5 k5 e6 t6 s6 l6 k6 e7 t7 s7 l7 k7 o0 o1 o2 o3 m0 m1 (mm_rE (gw_ad b0 b7 b15 b22 b35 b43 e0 t0 s0 l0 k0 e1 t1 s1 l1 k1 e2 t2 s2 l2 k2 e3 t3 s3 l3 k3 e4 t4 s4 l4 k4 e5 t5 s5 l5 k5 e6 t6 s6 l6 k6 e7 t7 s7 l7 k7 o0 o1 o2 o3 m0 m1)) (mm_rS (gw_ad b0 b7 b15 b22 b35 b43 e0 t0 s0 l0 k0 e1 t1 s1 l1 k1 e2 t2 s2 l2 k2 e3 t3 s3 l3 k3 e4 t4 s4 l4 k4 e5 t5 s5 l5 k5 e6 t6 s6 l6 k6 e7 t7 s7 l7 k7 o0 o1 o2 o3 m0 m1)))[gw_pi k]? = some ((gw_ad b0 b7 b15 b22 b35 b43 e0 t0 s0 l0 k0 e1 t1 s1 l1 k1 e2 t2 s2 l2 k2 e3 t3 s3 l3 k3 e4 t4 s4 l4 k4 e5 t5 s5 l5 k5 e6 t6 s6 l6 k6 e7 t7 s7 l7 k7 o0 o1 o2 o3 m0 m1) k, mm_ct (gw_ad b0 b7 b15 b22 b35 b43 e0 t0 s0 l0 k0 e1 t1 s1 l1 k1 e2 t2 s2 l2 k2 e3 t3 s3 l3 k3 e4 t4 s4 l4 k4 e5 t5 s5 l5 k5 e6 t6 s6 l6 k6 e7 t7 s7 l7 k7 o0 o1 o2 o3 m0 m1) q mm_M0 k) := by
  intro k h1 h2
  rcases (show k = 0 ∨ k = 1 ∨ k = 2 ∨ k = 3 ∨ k = 4 ∨ k = 5 by omega) with rfl | rfl | rfl | rfl | rfl | rfl
  · rfl
  · rfl
  · rfl
  · rfl
  · rfl
  · rfl
set_option maxHeartbeats 4000000 in
set_option maxRecDepth 100000 in
theorem gw_F6 : ∀ k, 6 ≤ k → k < 18 → (gw_WL q b0 b7 b15 b22 b35 b43 e0 t0 s0 l0 k0 e1 t1 s1 l1 k1 e2 t2 s2 l2 k2 e3 t3 s3 l3 k3 e4 t4 s4 l4 k4 e5 t5 s5 l5 k5 e6 t6 s6 l6 k6 e7 t7 s7 l7 k7 o0 o1 o2 o3 m0 m1 (mm_rE (gw_ad b0 b7 b15 b22 b35 b43 e0 t0 s0 l0 k0 e1 t1 s1 l1 k1 e2 t2 s2 l2 k2 e3 t3 s3 l3 k3 e4 t4 s4 l4 k4 e5 t5 s5 l5 k5 e6 t6 s6 l6 k6 e7 t7 s7 l7 k7 o0 o1 o2 o3 m0 m1)) (mm_rS (gw_ad b0 b7 b15 b22 b35 b43 e0 t0 s0 l0 k0 e1 t1 s1 l1 k1 e2 t2 s2 l2 k2 e3 t3 s3 l3 k3 e4 t4 s4 l4 k4 e5 t5 s5 l5 k5 e6 t6 s6 l6 k6 e7 t7 s7 l7 k7 o0 o1 o2 o3 m0 m1)))[gw_pi k]? = some ((gw_ad b0 b7 b15 b22 b35 b43 e0 t0 s0 l0 k0 e1 t1 s1 l1 k1 e2 t2 s2 l2 k2 e3 t3 s3 l3 k3 e4 t4 s4 l4 k4 e5 t5 s5 l5 k5 e6 t6 s6 l6 k6 e7 t7 s7 l7 k7 o0 o1 o2 o3 m0 m1) k, mm_ct (gw_ad b0 b7 b15 b22 b35 b43 e0 t0 s0 l0 k0 e1 t1 s1 l1 k1 e2 t2 s2 l2 k2 e3 t3 s3 l3 k3 e4 t4 s4 l4 k4 e5 t5 s5 l5 k5 e6 t6 s6 l6 k6 e7 t7 s7 l7 k7 o0 o1 o2 o3 m0 m1) q mm_M0 k) := by
  intro k h1 h2
  rcases (show k = 6 ∨ k = 7 ∨ k = 8 ∨ k = 9 ∨ k = 10 ∨ k = 11 ∨ k = 12 ∨ k = 13 ∨ k = 14 ∨ k = 15 ∨ k = 16 ∨ k = 17 by omega) with rfl | rfl | rfl | rfl | rfl | rfl | rfl | rfl | rfl | rfl | rfl | rfl
  · rfl
  · rfl
  · rfl
  · rfl
  · rfl
  · rfl
  · rfl
  · rfl
  · rfl
  · rfl
  · rfl
  · rfl
set_option maxHeartbeats 4000000 in
set_option maxRecDepth 100000 in
theorem gw_F18 : ∀ k, 18 ≤ k → k < 34 → (gw_WL q b0 b7 b15 b22 b35 b43 e0 t0 s0 l0 k0 e1 t1 s1 l1 k1 e2 t2 s2 l2 k2 e3 t3 s3 l3 k3 e4 t4 s4 l4 k4 e5 t5 s5 l5 k5 e6 t6 s6 l6 k6 e7 t7 s7 l7 k7 o0 o1 o2 o3 m0 m1 (mm_rE (gw_ad b0 b7 b15 b22 b35 b43 e0 t0 s0 l0 k0 e1 t1 s1 l1 k1 e2 t2 s2 l2 k2 e3 t3 s3 l3 k3 e4 t4 s4 l4 k4 e5 t5 s5 l5 k5 e6 t6 s6 l6 k6 e7 t7 s7 l7 k7 o0 o1 o2 o3 m0 m1)) (mm_rS (gw_ad b0 b7 b15 b22 b35 b43 e0 t0 s0 l0 k0 e1 t1 s1 l1 k1 e2 t2 s2 l2 k2 e3 t3 s3 l3 k3 e4 t4 s4 l4 k4 e5 t5 s5 l5 k5 e6 t6 s6 l6 k6 e7 t7 s7 l7 k7 o0 o1 o2 o3 m0 m1)))[gw_pi k]? = some ((gw_ad b0 b7 b15 b22 b35 b43 e0 t0 s0 l0 k0 e1 t1 s1 l1 k1 e2 t2 s2 l2 k2 e3 t3 s3 l3 k3 e4 t4 s4 l4 k4 e5 t5 s5 l5 k5 e6 t6 s6 l6 k6 e7 t7 s7 l7 k7 o0 o1 o2 o3 m0 m1) k, mm_ct (gw_ad b0 b7 b15 b22 b35 b43 e0 t0 s0 l0 k0 e1 t1 s1 l1 k1 e2 t2 s2 l2 k2 e3 t3 s3 l3 k3 e4 t4 s4 l4 k4 e5 t5 s5 l5 k5 e6 t6 s6 l6 k6 e7 t7 s7 l7 k7 o0 o1 o2 o3 m0 m1) q mm_M0 k) := by
  intro k h1 h2
  rcases (show k = 18 ∨ k = 19 ∨ k = 20 ∨ k = 21 ∨ k = 22 ∨ k = 23 ∨ k = 24 ∨ k = 25 ∨ k = 26 ∨ k = 27 ∨ k = 28 ∨ k = 29 ∨ k = 30 ∨ k = 31 ∨ k = 32 ∨ k = 33 by omega) with rfl | rfl | rfl | rfl | rfl | rfl | rfl | rfl | rfl | rfl | rfl | rfl | rfl | rfl | rfl | rfl
  · rfl
  · rfl
  · rfl
  · rfl
  · rfl
  · rfl
  · rfl
  · rfl
  · rfl
  · rfl
  · rfl
  · rfl
  · rfl
  · rfl
  · rfl
  · rfl
set_option maxHeartbeats 4000000 in
set_option maxRecDepth 100000 in
theorem gw_F34 : ∀ k, 34 ≤ k → k < 50 → (gw_WL q b0 b7 b15 b22 b35 b43 e0 t0 s0 l0 k0 e1 t1 s1 l1 k1 e2 t2 s2 l2 k2 e3 t3 s3 l3 k3 e4 t4 s4 l4 k4 e5 t5 s5 l5 k5 e6 t6 s6 l6 k6 e7 t7 s7 l7 k7 o0 o1 o2 o3 m0 m1 (mm_rE (gw_ad b0 b7 b15 b22 b35 b43 e0 t0 s0 l0 k0 e1 t1 s1 l1 k1 e2 t2 s2 l2 k2 e3 t3 s3 l3 k3 e4 t4 s4 l4 k4 e5 t5 s5 l5 k5 e6 t6 s6 l6 k6 e7 t7 s7 l7 k7 o0 o1 o2 o3 m0 m1)) (mm_rS (gw_ad b0 b7 b15 b22 b35 b43 e0 t0 s0 l0 k0 e1 t1 s1 l1 k1 e2 t2 s2 l2 k2 e3 t3 s3 l3 k3 e4 t4 s4 l4 k4 e5 t5 s5 l5 k5 e6 t6 s6 l6 k6 e7 t7 s7 l7 k7 o0 o1 o2 o3 m0 m1)))[gw_pi k]? = some ((gw_ad b0 b7 b15 b22 b35 b43 e0 t0 s0 l0 k0 e1 t1 s1 l1 k1 e2 t2 s2 l2 k2 e3 t3 s3 l3 k3 e4 t4 s4 l4 k4 e5 t5 s5 l5 k5 e6 t6 s6 l6 k6 e7 t7 s7 l7 k7 o0 o1 o2 o3 m0 m1) k, mm_ct (gw_ad b0 b7 b15 b22 b35 b43 e0 t0 s0 l0 k0 e1 t1 s1 l1 k1 e2 t2 s2 l2 k2 e3 t3 s3 l3 k3 e4 t4 s4 l4 k4 e5 t5 s5 l5 k5 e6 t6 s6 l6 k6 e7 t7 s7 l7 k7 o0 o1 o2 o3 m0 m1) q mm_M0 k) := by
  intro k h1 h2
  rcases (show k = 34 ∨ k = 35 ∨ k = 36 ∨ k = 37 ∨ k = 38 ∨ k = 39 ∨ k = 40 ∨ k = 41 ∨ k = 42 ∨ k = 43 ∨ k = 44 ∨ k = 45 ∨ k = 46 ∨ k = 47 ∨ k = 48 ∨ k = 49 by omega) with rfl | rfl | rfl | rfl | rfl | rfl | rfl | rfl | rfl | rfl | rfl | rfl | rfl | rfl | rfl | rfl
  · rfl
  · rfl
  · rfl
  · rfl
  · rfl
  · rfl
  · rfl
  · rfl
  · rfl
  · rfl
  · rfl
  · rfl
  · rfl
  · rfl
  · rfl
  · rfl
set_option maxHeartbeats 4000000 in
set_option maxRecDepth 100000 in
theorem gw_F50 : ∀ k, 50 ≤ k → k < 52 → (gw_WL q b0 b7 b15 b22 b35 b43 e0 t0 s0 l0 k0 e1 t1 s1 l1 k1 e2 t2 s2 l2 k2 e3 t3 s3 l3 k3 e4 t4 s4 l4 k4 e5 t5 s5 l5 k5 e6 t6 s6 l6 k6 e7 t7 s7 l7 k7 o0 o1 o2 o3 m0 m1 (mm_rE (gw_ad b0 b7 b15 b22 b35 b43 e0 t0 s0 l0 k0 e1 t1 s1 l1 k1 e2 t2 s2 l2 k2 e3 t3 s3 l3 k3 e4 t4 s4 l4 k4 e5 t5 s5 l5 k5 e6 t6 s6 l6 k6 e7 t7 s7 l7 k7 o0 o1 o2 o3 m0 m1)) (mm_rS (gw_ad b0 b7 b15 b22 b35 b43 e0 t0 s0 l0 k0 e1 t1 s1 l1 k1 e2 t2 s2 l2 k2 e3 t3 s3 l3 k3 e4 t4 s4 l4 k4 e5 t5 s5 l5 k5 e6 t6 s6 l6 k6 e7 t7 s7 l7 k7 o0 o1 o2 o3 m0 m1)))[gw_pi k]? = some ((gw_ad b0 b7 b15 b22 b35 b43 e0 t0 s0 l0 k0 e1 t1 s1 l1 k1 e2 t2 s2 l2 k2 e3 t3 s3 l3 k3 e4 t4 s4 l4 k4 e5 t5 s5 l5 k5 e6 t6 s6 l6 k6 e7 t7 s7 l7 k7 o0 o1 o2 o3 m0 m1) k, mm_ct (gw_ad b0 b7 b15 b22 b35 b43 e0 t0 s0 l0 k0 e1 t1 s1 l1 k1 e2 t2 s2 l2 k2 e3 t3 s3 l3 k3 e4 t4 s4 l4 k4 e5 t5 s5 l5 k5 e6 t6 s6 l6 k6 e7 t7 s7 l7 k7 o0 o1 o2 o3 m0 m1) q mm_M0 k) := by
  intro k h1 h2
  rcases (show k = 50 ∨ k = 51 by omega) with rfl | rfl
  · rfl
  · rfl
theorem gw_F : ∀ k, k < 52 → (gw_WL q b0 b7 b15 b22 b35 b43 e0 t0 s0 l0 k0 e1 t1 s1 l1 k1 e2 t2 s2 l2 k2 e3 t3 s3 l3 k3 e4 t4 s4 l4 k4 e5 t5 s5 l5 k5 e6 t6 s6 l6 k6 e7 t7 s7 l7 k7 o0 o1 o2 o3 m0 m1 (mm_rE (gw_ad b0 b7 b15 b22 b35 b43 e0 t0 s0 l0 k0 e1 t1 s1 l1 k1 e2 t2 s2 l2 k2 e3 t3 s3 l3 k3 e4 t4 s4 l4 k4 e5 t5 s5 l5 k5 e6 t6 s6 l6 k6 e7 t7 s7 l7 k7 o0 o1 o2 o3 m0 m1)) (mm_rS (gw_ad b0 b7 b15 b22 b35 b43 e0 t0 s0 l0 k0 e1 t1 s1 l1 k1 e2 t2 s2 l2 k2 e3 t3 s3 l3 k3 e4 t4 s4 l4 k4 e5 t5 s5 l5 k5 e6 t6 s6 l6 k6 e7 t7 s7 l7 k7 o0 o1 o2 o3 m0 m1)))[gw_pi k]? = some ((gw_ad b0 b7 b15 b22 b35 b43 e0 t0 s0 l0 k0 e1 t1 s1 l1 k1 e2 t2 s2 l2 k2 e3 t3 s3 l3 k3 e4 t4 s4 l4 k4 e5 t5 s5 l5 k5 e6 t6 s6 l6 k6 e7 t7 s7 l7 k7 o0 o1 o2 o3 m0 m1) k, mm_ct (gw_ad b0 b7 b15 b22 b35 b43 e0 t0 s0 l0 k0 e1 t1 s1 l1 k1 e2 t2 s2 l2 k2 e3 t3 s3 l3 k3 e4 t4 s4 l4 k4 e5 t5 s5 l5 k5 e6 t6 s6 l6 k6 e7 t7 s7 l7 k7 o0 o1 o2 o3 m0 m1) q mm_M0 k) := by
  intro k hk
  by_cases h1 : k < 6
  · exact gw_F0 k (Nat.zero_le _) h1
  by_cases h2 : k < 18
  · exact gw_F6 k (by omega) h2
  by_cases h3 : k < 34
  · exact gw_F18 k (by omega) h3
  by_cases h4 : k < 50
  · exact gw_F34 k (by omega) h4
  · exact gw_F50 k (by omega) hk
theorem gw_refs {D : va_G} {H : Heap} {ws : va_W} {k a n : Nat} {cA : ClassId} {f g : Nat → Option Nat} (hP : va_P D vwCl ws H) (hk : ws[k]? = some (a, .inl (cA, n, .inr (.inr (.inr (.inr f)))))) (h : ∀ j, j < n → f j = g j) : va_P D vwCl (ws.set k (a, .inl (cA, n, .inr (.inr (.inr (.inr g)))))) H := by
  intro i x hx
  by_cases hi : i = k
  · subst hi
    rw [List.getElem?_set_self (List.getElem?_eq_some_iff.mp hk).1] at hx
    cases hx
    have h0 : H[a]? = some (arrV cA n (fun j => va_rf (f j))) := hP i _ hk
    show H[a]? = some (arrV cA n (fun j => va_rf (g j)))
    have e : (fun j : Fin n => va_rf (f j.val)) = fun j => va_rf (g j.val) := funext fun j => by rw [h j.val j.isLt]
    rw [h0]
    unfold arrV
    rw [e]
  · rw [List.getElem?_set_ne (Ne.symm hi)] at hx
    exact hP i x hx
set_option maxHeartbeats 4000000 in
set_option maxRecDepth 100000 in
theorem gw_mem {D : va_G} {A : Nat → Prop} {H : Heap} (hP : va_P D vwCl (gw_WL q b0 b7 b15 b22 b35 b43 e0 t0 s0 l0 k0 e1 t1 s1 l1 k1 e2 t2 s2 l2 k2 e3 t3 s3 l3 k3 e4 t4 s4 l4 k4 e5 t5 s5 l5 k5 e6 t6 s6 l6 k6 e7 t7 s7 l7 k7 o0 o1 o2 o3 m0 m1 (gw_f [(e0, (t0, s0, l0, k0)), (e1, (t1, s1, l1, k1)), (e2, (t2, s2, l2, k2)), (e3, (t3, s3, l3, k3)), (e4, (t4, s4, l4, k4)), (e5, (t5, s5, l5, k5)), (e6, (t6, s6, l6, k6)), (e7, (t7, s7, l7, k7))]) (gw_g [o0, o1, o2, o3])) H) (hD : va_D A (gw_WL q b0 b7 b15 b22 b35 b43 e0 t0 s0 l0 k0 e1 t1 s1 l1 k1 e2 t2 s2 l2 k2 e3 t3 s3 l3 k3 e4 t4 s4 l4 k4 e5 t5 s5 l5 k5 e6 t6 s6 l6 k6 e7 t7 s7 l7 k7 o0 o1 o2 o3 m0 m1 (gw_f [(e0, (t0, s0, l0, k0)), (e1, (t1, s1, l1, k1)), (e2, (t2, s2, l2, k2)), (e3, (t3, s3, l3, k3)), (e4, (t4, s4, l4, k4)), (e5, (t5, s5, l5, k5)), (e6, (t6, s6, l6, k6)), (e7, (t7, s7, l7, k7))]) (gw_g [o0, o1, o2, o3]))) : va_P D vwCl (mm_w (gw_ad b0 b7 b15 b22 b35 b43 e0 t0 s0 l0 k0 e1 t1 s1 l1 k1 e2 t2 s2 l2 k2 e3 t3 s3 l3 k3 e4 t4 s4 l4 k4 e5 t5 s5 l5 k5 e6 t6 s6 l6 k6 e7 t7 s7 l7 k7 o0 o1 o2 o3 m0 m1) q mm_M0) H ∧ mm_AD (gw_ad b0 b7 b15 b22 b35 b43 e0 t0 s0 l0 k0 e1 t1 s1 l1 k1 e2 t2 s2 l2 k2 e3 t3 s3 l3 k3 e4 t4 s4 l4 k4 e5 t5 s5 l5 k5 e6 t6 s6 l6 k6 e7 t7 s7 l7 k7 o0 o1 o2 o3 m0 m1) A := by
  have hP1 : va_P D vwCl (gw_WL q b0 b7 b15 b22 b35 b43 e0 t0 s0 l0 k0 e1 t1 s1 l1 k1 e2 t2 s2 l2 k2 e3 t3 s3 l3 k3 e4 t4 s4 l4 k4 e5 t5 s5 l5 k5 e6 t6 s6 l6 k6 e7 t7 s7 l7 k7 o0 o1 o2 o3 m0 m1 (mm_rE (gw_ad b0 b7 b15 b22 b35 b43 e0 t0 s0 l0 k0 e1 t1 s1 l1 k1 e2 t2 s2 l2 k2 e3 t3 s3 l3 k3 e4 t4 s4 l4 k4 e5 t5 s5 l5 k5 e6 t6 s6 l6 k6 e7 t7 s7 l7 k7 o0 o1 o2 o3 m0 m1)) (gw_g [o0, o1, o2, o3])) H := gw_refs (k := 1) (g := mm_rE (gw_ad b0 b7 b15 b22 b35 b43 e0 t0 s0 l0 k0 e1 t1 s1 l1 k1 e2 t2 s2 l2 k2 e3 t3 s3 l3 k3 e4 t4 s4 l4 k4 e5 t5 s5 l5 k5 e6 t6 s6 l6 k6 e7 t7 s7 l7 k7 o0 o1 o2 o3 m0 m1)) hP rfl (fun j hj => by
    rcases (show j = 0 ∨ j = 1 ∨ j = 2 ∨ j = 3 ∨ j = 4 ∨ j = 5 ∨ j = 6 ∨ j = 7 by omega) with rfl | rfl | rfl | rfl | rfl | rfl | rfl | rfl <;> rfl)
  have hD1 : va_D A (gw_WL q b0 b7 b15 b22 b35 b43 e0 t0 s0 l0 k0 e1 t1 s1 l1 k1 e2 t2 s2 l2 k2 e3 t3 s3 l3 k3 e4 t4 s4 l4 k4 e5 t5 s5 l5 k5 e6 t6 s6 l6 k6 e7 t7 s7 l7 k7 o0 o1 o2 o3 m0 m1 (mm_rE (gw_ad b0 b7 b15 b22 b35 b43 e0 t0 s0 l0 k0 e1 t1 s1 l1 k1 e2 t2 s2 l2 k2 e3 t3 s3 l3 k3 e4 t4 s4 l4 k4 e5 t5 s5 l5 k5 e6 t6 s6 l6 k6 e7 t7 s7 l7 k7 o0 o1 o2 o3 m0 m1)) (gw_g [o0, o1, o2, o3])) := hD.set (p := 1) rfl
  have hP2 : va_P D vwCl (gw_WL q b0 b7 b15 b22 b35 b43 e0 t0 s0 l0 k0 e1 t1 s1 l1 k1 e2 t2 s2 l2 k2 e3 t3 s3 l3 k3 e4 t4 s4 l4 k4 e5 t5 s5 l5 k5 e6 t6 s6 l6 k6 e7 t7 s7 l7 k7 o0 o1 o2 o3 m0 m1 (mm_rE (gw_ad b0 b7 b15 b22 b35 b43 e0 t0 s0 l0 k0 e1 t1 s1 l1 k1 e2 t2 s2 l2 k2 e3 t3 s3 l3 k3 e4 t4 s4 l4 k4 e5 t5 s5 l5 k5 e6 t6 s6 l6 k6 e7 t7 s7 l7 k7 o0 o1 o2 o3 m0 m1)) (mm_rS (gw_ad b0 b7 b15 b22 b35 b43 e0 t0 s0 l0 k0 e1 t1 s1 l1 k1 e2 t2 s2 l2 k2 e3 t3 s3 l3 k3 e4 t4 s4 l4 k4 e5 t5 s5 l5 k5 e6 t6 s6 l6 k6 e7 t7 s7 l7 k7 o0 o1 o2 o3 m0 m1))) H := gw_refs (k := 2) (g := mm_rS (gw_ad b0 b7 b15 b22 b35 b43 e0 t0 s0 l0 k0 e1 t1 s1 l1 k1 e2 t2 s2 l2 k2 e3 t3 s3 l3 k3 e4 t4 s4 l4 k4 e5 t5 s5 l5 k5 e6 t6 s6 l6 k6 e7 t7 s7 l7 k7 o0 o1 o2 o3 m0 m1)) hP1 rfl (fun j hj => by
    rcases (show j = 0 ∨ j = 1 ∨ j = 2 ∨ j = 3 by omega) with rfl | rfl | rfl | rfl <;> rfl)
  have hD2 : va_D A (gw_WL q b0 b7 b15 b22 b35 b43 e0 t0 s0 l0 k0 e1 t1 s1 l1 k1 e2 t2 s2 l2 k2 e3 t3 s3 l3 k3 e4 t4 s4 l4 k4 e5 t5 s5 l5 k5 e6 t6 s6 l6 k6 e7 t7 s7 l7 k7 o0 o1 o2 o3 m0 m1 (mm_rE (gw_ad b0 b7 b15 b22 b35 b43 e0 t0 s0 l0 k0 e1 t1 s1 l1 k1 e2 t2 s2 l2 k2 e3 t3 s3 l3 k3 e4 t4 s4 l4 k4 e5 t5 s5 l5 k5 e6 t6 s6 l6 k6 e7 t7 s7 l7 k7 o0 o1 o2 o3 m0 m1)) (mm_rS (gw_ad b0 b7 b15 b22 b35 b43 e0 t0 s0 l0 k0 e1 t1 s1 l1 k1 e2 t2 s2 l2 k2 e3 t3 s3 l3 k3 e4 t4 s4 l4 k4 e5 t5 s5 l5 k5 e6 t6 s6 l6 k6 e7 t7 s7 l7 k7 o0 o1 o2 o3 m0 m1))) := hD1.set (p := 2) rfl
  refine ⟨fun k x hx => ?_, fun i j hi hj e => ?_, fun i hi => ?_⟩
  · obtain ⟨hk, rfl⟩ := mm_w_of hx
    exact hP2 (gw_pi k) _ (gw_F k hk)
  · exact gw_pi_inj i hi j hj (hD2.1 (gw_pi i) (gw_pi j) _ _ (gw_F i hi) (gw_F j hj) e)
  · exact hD2.2 (gw_pi i) _ (gw_F i hi)
end GF
theorem gw_ex {α : Type} {us : List α} {n : Nat} (h : us.length = n + 1) : ∃ (x : α) (vs : List α), us = x :: vs ∧ vs.length = n := by
  cases us with
  | nil => cases h
  | cons x vs => exact ⟨x, vs, rfl, Nat.succ.inj h⟩
set_option maxHeartbeats 4000000 in
set_option maxRecDepth 100000 in
/-- the world behind both constructors and the long row is the memory mm_M0 -/
theorem gw_all {q : Nat → ClassId} {D : va_G} {A : Nat → Prop} {H : Heap} {b0 m0 m1 : Nat} {u : (Nat × Nat × Nat × Nat × Nat) × (List (Nat × (Nat × Nat × Nat × Nat))) × List Nat} (hu : u.2.1.length = 8 ∧ u.2.2.length = 4) (hP : va_P D vwCl (gw_W4 q b0 u ++ [(m0, .inl (q 0, 5, .inl (fun _ => 0)))] ++ [(m1, .inl (q 0, 16, .inl (fun _ => 0)))]) H) (hD : va_D A (gw_W4 q b0 u ++ [(m0, .inl (q 0, 5, .inl (fun _ => 0)))] ++ [(m1, .inl (q 0, 16, .inl (fun _ => 0)))])) : ∃ ad : Nat → Nat, ad 0 = b0 ∧ ad 50 = m0 ∧ ad 51 = m1 ∧ va_P D vwCl (mm_w ad q mm_M0) H ∧ mm_AD ad A := by
  obtain ⟨⟨b7, b15, b22, b35, b43⟩, us, vs⟩ := u
  obtain ⟨h8, h4⟩ := hu
  obtain ⟨⟨e0, t0, s0, l0, k0⟩, us, rfl, x0⟩ := gw_ex (n := 7) h8
  obtain ⟨⟨e1, t1, s1, l1, k1⟩, us, rfl, x1⟩ := gw_ex (n := 6) x0
  obtain ⟨⟨e2, t2, s2, l2, k2⟩, us, rfl, x2⟩ := gw_ex (n := 5) x1
  obtain ⟨⟨e3, t3, s3, l3, k3⟩, us, rfl, x3⟩ := gw_ex (n := 4) x2
  obtain ⟨⟨e4, t4, s4, l4, k4⟩, us, rfl, x4⟩ := gw_ex (n := 3) x3
  obtain ⟨⟨e5, t5, s5, l5, k5⟩, us, rfl, x5⟩ := gw_ex (n := 2) x4
  obtain ⟨⟨e6, t6, s6, l6, k6⟩, us, rfl, x6⟩ := gw_ex (n := 1) x5
  obtain ⟨⟨e7, t7, s7, l7, k7⟩, us, rfl, x7⟩ := gw_ex (n := 0) x6
  obtain rfl := List.eq_nil_of_length_eq_zero x7
  obtain ⟨o0, vs, rfl, y0⟩ := gw_ex (n := 3) h4
  obtain ⟨o1, vs, rfl, y1⟩ := gw_ex (n := 2) y0
  obtain ⟨o2, vs, rfl, y2⟩ := gw_ex (n := 1) y1
  obtain ⟨o3, vs, rfl, y3⟩ := gw_ex (n := 0) y2
  obtain rfl := List.eq_nil_of_length_eq_zero y3
  refine ⟨gw_ad b0 b7 b15 b22 b35 b43 e0 t0 s0 l0 k0 e1 t1 s1 l1 k1 e2 t2 s2 l2 k2 e3 t3 s3 l3 k3 e4 t4 s4 l4 k4 e5 t5 s5 l5 k5 e6 t6 s6 l6 k6 e7 t7 s7 l7 k7 o0 o1 o2 o3 m0 m1, rfl, rfl, rfl, ?_⟩
  exact gw_mem (q := q) hP hD
