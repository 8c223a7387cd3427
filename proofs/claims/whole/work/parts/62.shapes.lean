/-! the component's shapes -/
theorem r_cpN {G : Gl} {y : Mth} {d pc : Nat} {lv : List (Option AV)} {st : List AV} {T : Sh} {I : Mi} {Q : Option AV → Sh → Mi → Prop} {idx a a0 : Nat} {spI dpI nI : Int} (sp dp n : Nat) (hd : decode y.2.1 pc = .ok (.invokestatic idx, 3)) (hd1 : 1 ≤ d) (hl : AC y.1.cls idx) (hc8 : (st.map catA).sum ≤ 8) (hk : kd T a = 20 ∨ kd T a = 23) (hk0 : kd T a0 = kd T a) (ha : a < nx T) (ha0 : a0 < nx T) (e1 : spI = (sp : Int)) (e2 : dpI = (dp : Int)) (e3 : nI = (n : Int)) (h4 : sp + n ≤ ln T a0) (h5 : dp + n ≤ ln T a) (k : Ev G y d (pc + 3) lv st T (sr I a (cpyR (I a0) sp (I a) dp n)) Q) : Ev G y d pc lv (aI nI :: aI dpI :: aR a :: aI spI :: aR a0 :: st) T I Q := by
  subst e1
  subst e2
  subst e3
  refine r_copy hd hd1 hl hc8 hk hk0 ha ha0 (by omega) (by omega) (by omega) (by omega) (by omega) ?_
  refine r_mem (I2 := sr I a (cpyR (I a0) sp (I a) dp n)) ?_ k
  rw [Int.toNat_natCast, Int.toNat_natCast, Int.toNat_natCast]
  funext b j
  unfold cpy sr cpyR
  by_cases g : b = a
  · subst g
    by_cases g2 : dp ≤ j ∧ j < dp + n
    · rw [if_pos ⟨rfl, g2⟩, if_pos rfl, if_pos g2]
    · rw [if_neg (fun h => g2 h.2), if_pos rfl, if_neg g2]
  · rw [if_neg (fun h => g h.1), if_neg g]
def tabS : List (Nat × Nat × Nat) := [(1, 20, 256), (2, 20, 1536), (4, 20, 256), (5, 20, 256), (6, 20, 256), (12, 20, 512), (13, 20, 256), (14, 20, 256)]
def objS : List (Nat × Nat) := [(0, 9), (3, 3), (7, 4), (11, 1)]
def refS : List (Nat × Nat × Nat) := [(0, 9, 1), (0, 10, 2), (0, 11, 3), (0, 12, 7), (0, 13, 11), (3, 1, 4), (3, 2, 5), (3, 3, 6), (11, 1, 12), (11, 2, 13), (11, 3, 14)]
/-- a State at s; its ledger's arrays are p, o, t, of c cells each (t: 4 c) -/
def ShS (T : Sh) (s p o t c : Nat) : Prop := (s + 15 ≤ 291 ∧ 291 ≤ nx T ∧ (∀ q ∈ tabS, kd T (s + q.1) = q.2.1 ∧ ln T (s + q.1) = q.2.2) ∧ (∀ q ∈ objS, kd T (s + q.1) = q.2) ∧ ∀ q ∈ refS, rf T (s + q.1) q.2.1 = some (s + q.2.2)) ∧
  (rf T (s + 7) 1 = some p ∧ rf T (s + 7) 2 = some o ∧ rf T (s + 7) 3 = some t ∧ kd T p = 20 ∧ kd T o = 20 ∧ kd T t = 23 ∧ ln T p = c ∧ ln T o = c ∧ ln T t = 4 * c) ∧
  (p < nx T ∧ o < nx T ∧ t < nx T ∧ (p = s + 8 ∨ 291 ≤ p) ∧ (o = s + 9 ∨ 291 ≤ o) ∧ (t = s + 10 ∨ 291 ≤ t) ∧ p ≠ o ∧ p ≠ t ∧ o ≠ t) ∧ ∃ k, k ≤ 8 ∧ c = 64 * 2 ^ k
theorem ltS {T : Sh} {s p o t c : Nat} (h : ShS T s p o t c) {k : Nat} (hk : k < 15) : s + k < nx T := by have := h.1.1; have := h.1.2.1; omega
theorem ltS0 {T : Sh} {s p o t c : Nat} (h : ShS T s p o t c) : s < nx T := by have := h.1.1; have := h.1.2.1; omega
theorem ltp {T : Sh} {s p o t c : Nat} (h : ShS T s p o t c) : p < nx T := h.2.2.1.1
theorem lto {T : Sh} {s p o t c : Nat} (h : ShS T s p o t c) : o < nx T := h.2.2.1.2.1
theorem ltt {T : Sh} {s p o t c : Nat} (h : ShS T s p o t c) : t < nx T := h.2.2.1.2.2.1
theorem kS1 {T : Sh} {s p o t c : Nat} (h : ShS T s p o t c) : kd T (s + 1) = 20 := (h.1.2.2.1 (1, 20, 256) (List.mem_of_getElem? (i := 0) rfl)).1
theorem lS1 {T : Sh} {s p o t c : Nat} (h : ShS T s p o t c) : ln T (s + 1) = 256 := (h.1.2.2.1 (1, 20, 256) (List.mem_of_getElem? (i := 0) rfl)).2
theorem kS2 {T : Sh} {s p o t c : Nat} (h : ShS T s p o t c) : kd T (s + 2) = 20 := (h.1.2.2.1 (2, 20, 1536) (List.mem_of_getElem? (i := 1) rfl)).1
theorem lS2 {T : Sh} {s p o t c : Nat} (h : ShS T s p o t c) : ln T (s + 2) = 1536 := (h.1.2.2.1 (2, 20, 1536) (List.mem_of_getElem? (i := 1) rfl)).2
theorem kS4 {T : Sh} {s p o t c : Nat} (h : ShS T s p o t c) : kd T (s + 4) = 20 := (h.1.2.2.1 (4, 20, 256) (List.mem_of_getElem? (i := 2) rfl)).1
theorem lS4 {T : Sh} {s p o t c : Nat} (h : ShS T s p o t c) : ln T (s + 4) = 256 := (h.1.2.2.1 (4, 20, 256) (List.mem_of_getElem? (i := 2) rfl)).2
theorem kS5 {T : Sh} {s p o t c : Nat} (h : ShS T s p o t c) : kd T (s + 5) = 20 := (h.1.2.2.1 (5, 20, 256) (List.mem_of_getElem? (i := 3) rfl)).1
theorem lS5 {T : Sh} {s p o t c : Nat} (h : ShS T s p o t c) : ln T (s + 5) = 256 := (h.1.2.2.1 (5, 20, 256) (List.mem_of_getElem? (i := 3) rfl)).2
theorem kS6 {T : Sh} {s p o t c : Nat} (h : ShS T s p o t c) : kd T (s + 6) = 20 := (h.1.2.2.1 (6, 20, 256) (List.mem_of_getElem? (i := 4) rfl)).1
theorem lS6 {T : Sh} {s p o t c : Nat} (h : ShS T s p o t c) : ln T (s + 6) = 256 := (h.1.2.2.1 (6, 20, 256) (List.mem_of_getElem? (i := 4) rfl)).2
theorem kS12 {T : Sh} {s p o t c : Nat} (h : ShS T s p o t c) : kd T (s + 12) = 20 := (h.1.2.2.1 (12, 20, 512) (List.mem_of_getElem? (i := 5) rfl)).1
theorem lS12 {T : Sh} {s p o t c : Nat} (h : ShS T s p o t c) : ln T (s + 12) = 512 := (h.1.2.2.1 (12, 20, 512) (List.mem_of_getElem? (i := 5) rfl)).2
theorem kS13 {T : Sh} {s p o t c : Nat} (h : ShS T s p o t c) : kd T (s + 13) = 20 := (h.1.2.2.1 (13, 20, 256) (List.mem_of_getElem? (i := 6) rfl)).1
theorem lS13 {T : Sh} {s p o t c : Nat} (h : ShS T s p o t c) : ln T (s + 13) = 256 := (h.1.2.2.1 (13, 20, 256) (List.mem_of_getElem? (i := 6) rfl)).2
theorem kS14 {T : Sh} {s p o t c : Nat} (h : ShS T s p o t c) : kd T (s + 14) = 20 := (h.1.2.2.1 (14, 20, 256) (List.mem_of_getElem? (i := 7) rfl)).1
theorem lS14 {T : Sh} {s p o t c : Nat} (h : ShS T s p o t c) : ln T (s + 14) = 256 := (h.1.2.2.1 (14, 20, 256) (List.mem_of_getElem? (i := 7) rfl)).2
theorem kS0 {T : Sh} {s p o t c : Nat} (h : ShS T s p o t c) : kd T (s) = 9 := h.1.2.2.2.1 (0, 9) (List.mem_of_getElem? (i := 0) rfl)
theorem kS3 {T : Sh} {s p o t c : Nat} (h : ShS T s p o t c) : kd T (s + 3) = 3 := h.1.2.2.2.1 (3, 3) (List.mem_of_getElem? (i := 1) rfl)
theorem kS7 {T : Sh} {s p o t c : Nat} (h : ShS T s p o t c) : kd T (s + 7) = 4 := h.1.2.2.2.1 (7, 4) (List.mem_of_getElem? (i := 2) rfl)
theorem kS11 {T : Sh} {s p o t c : Nat} (h : ShS T s p o t c) : kd T (s + 11) = 1 := h.1.2.2.2.1 (11, 1) (List.mem_of_getElem? (i := 3) rfl)
theorem rS0_9 {T : Sh} {s p o t c : Nat} (h : ShS T s p o t c) : rf T (s) 9 = some (s + 1) := h.1.2.2.2.2 (0, 9, 1) (List.mem_of_getElem? (i := 0) rfl)
theorem rS0_10 {T : Sh} {s p o t c : Nat} (h : ShS T s p o t c) : rf T (s) 10 = some (s + 2) := h.1.2.2.2.2 (0, 10, 2) (List.mem_of_getElem? (i := 1) rfl)
theorem rS0_11 {T : Sh} {s p o t c : Nat} (h : ShS T s p o t c) : rf T (s) 11 = some (s + 3) := h.1.2.2.2.2 (0, 11, 3) (List.mem_of_getElem? (i := 2) rfl)
theorem rS0_12 {T : Sh} {s p o t c : Nat} (h : ShS T s p o t c) : rf T (s) 12 = some (s + 7) := h.1.2.2.2.2 (0, 12, 7) (List.mem_of_getElem? (i := 3) rfl)
theorem rS0_13 {T : Sh} {s p o t c : Nat} (h : ShS T s p o t c) : rf T (s) 13 = some (s + 11) := h.1.2.2.2.2 (0, 13, 11) (List.mem_of_getElem? (i := 4) rfl)
theorem rS3_1 {T : Sh} {s p o t c : Nat} (h : ShS T s p o t c) : rf T (s + 3) 1 = some (s + 4) := h.1.2.2.2.2 (3, 1, 4) (List.mem_of_getElem? (i := 5) rfl)
theorem rS3_2 {T : Sh} {s p o t c : Nat} (h : ShS T s p o t c) : rf T (s + 3) 2 = some (s + 5) := h.1.2.2.2.2 (3, 2, 5) (List.mem_of_getElem? (i := 6) rfl)
theorem rS3_3 {T : Sh} {s p o t c : Nat} (h : ShS T s p o t c) : rf T (s + 3) 3 = some (s + 6) := h.1.2.2.2.2 (3, 3, 6) (List.mem_of_getElem? (i := 7) rfl)
theorem rS11_1 {T : Sh} {s p o t c : Nat} (h : ShS T s p o t c) : rf T (s + 11) 1 = some (s + 12) := h.1.2.2.2.2 (11, 1, 12) (List.mem_of_getElem? (i := 8) rfl)
theorem rS11_2 {T : Sh} {s p o t c : Nat} (h : ShS T s p o t c) : rf T (s + 11) 2 = some (s + 13) := h.1.2.2.2.2 (11, 2, 13) (List.mem_of_getElem? (i := 9) rfl)
theorem rS11_3 {T : Sh} {s p o t c : Nat} (h : ShS T s p o t c) : rf T (s + 11) 3 = some (s + 14) := h.1.2.2.2.2 (11, 3, 14) (List.mem_of_getElem? (i := 10) rfl)
theorem rS7_1 {T : Sh} {s p o t c : Nat} (h : ShS T s p o t c) : rf T (s + 7) 1 = some p := h.2.1.1
theorem kp_ {T : Sh} {s p o t c : Nat} (h : ShS T s p o t c) : kd T p = 20 := h.2.1.2.2.2.1
theorem lp_ {T : Sh} {s p o t c : Nat} (h : ShS T s p o t c) : ln T p = c := h.2.1.2.2.2.2.2.2.1
theorem rS7_2 {T : Sh} {s p o t c : Nat} (h : ShS T s p o t c) : rf T (s + 7) 2 = some o := h.2.1.2.1
theorem ko_ {T : Sh} {s p o t c : Nat} (h : ShS T s p o t c) : kd T o = 20 := h.2.1.2.2.2.2.1
theorem lo_ {T : Sh} {s p o t c : Nat} (h : ShS T s p o t c) : ln T o = c := h.2.1.2.2.2.2.2.2.2.1
theorem rS7_3 {T : Sh} {s p o t c : Nat} (h : ShS T s p o t c) : rf T (s + 7) 3 = some t := h.2.1.2.2.1
theorem kt_ {T : Sh} {s p o t c : Nat} (h : ShS T s p o t c) : kd T t = 23 := h.2.1.2.2.2.2.2.1
theorem lt_ {T : Sh} {s p o t c : Nat} (h : ShS T s p o t c) : ln T t = 4 * c := h.2.1.2.2.2.2.2.2.2.2
theorem neS {T : Sh} {s p o t c : Nat} (h : ShS T s p o t c) : s + 15 ≤ 291 ∧ (p = s + 8 ∨ 291 ≤ p) ∧ (o = s + 9 ∨ 291 ≤ o) ∧ (t = s + 10 ∨ 291 ≤ t) ∧ p ≠ o ∧ p ≠ t ∧ o ≠ t := ⟨h.1.1, h.2.2.1.2.2.2.1, h.2.2.1.2.2.2.2.1, h.2.2.1.2.2.2.2.2.1, h.2.2.1.2.2.2.2.2.2⟩
def ShD (T : Sh) (m : Nat) : Prop := (m + 4 ≤ 291 ∧ 291 ≤ nx T) ∧ (kd T (m) = 5) ∧ ((kd T (m + 1) = 20 ∧ ln T (m + 1) = 1536) ∧ (kd T (m + 2) = 20 ∧ ln T (m + 2) = 768) ∧ (kd T (m + 3) = 23 ∧ ln T (m + 3) = 4)) ∧ (rf T (m) 0 = some (m + 1) ∧ rf T (m) 1 = some (m + 2) ∧ rf T (m) 2 = some (m + 3))
theorem ltD {T : Sh} {m : Nat} (h : ShD T m) {k : Nat} (hk : k < 4) : m + k < nx T := by have := h.1; omega
theorem ltD0 {T : Sh} {m : Nat} (h : ShD T m) : m < nx T := by have := h.1; omega
theorem kD0 {T : Sh} {m : Nat} (h : ShD T m) : kd T (m) = 5 := h.2.1
theorem kD1 {T : Sh} {m : Nat} (h : ShD T m) : kd T (m + 1) = 20 := h.2.2.1.1.1
theorem lD1 {T : Sh} {m : Nat} (h : ShD T m) : ln T (m + 1) = 1536 := h.2.2.1.1.2
theorem kD2 {T : Sh} {m : Nat} (h : ShD T m) : kd T (m + 2) = 20 := h.2.2.1.2.1.1
theorem lD2 {T : Sh} {m : Nat} (h : ShD T m) : ln T (m + 2) = 768 := h.2.2.1.2.1.2
theorem kD3 {T : Sh} {m : Nat} (h : ShD T m) : kd T (m + 3) = 23 := h.2.2.1.2.2.1
theorem lD3 {T : Sh} {m : Nat} (h : ShD T m) : ln T (m + 3) = 4 := h.2.2.1.2.2.2
theorem rD0_0 {T : Sh} {m : Nat} (h : ShD T m) : rf T (m) 0 = some (m + 1) := h.2.2.2.1
theorem rD0_1 {T : Sh} {m : Nat} (h : ShD T m) : rf T (m) 1 = some (m + 2) := h.2.2.2.2.1
theorem rD0_2 {T : Sh} {m : Nat} (h : ShD T m) : rf T (m) 2 = some (m + 3) := h.2.2.2.2.2
def ShA (T : Sh) (a : Nat) : Prop := (a + 3 ≤ 291 ∧ 291 ≤ nx T) ∧ (kd T (a) = 0) ∧ ((kd T (a + 1) = 20 ∧ ln T (a + 1) = 512) ∧ (kd T (a + 2) = 23 ∧ ln T (a + 2) = 4)) ∧ (rf T (a) 0 = some (a + 1) ∧ rf T (a) 1 = some (a + 2))
theorem ltA {T : Sh} {a : Nat} (h : ShA T a) {k : Nat} (hk : k < 3) : a + k < nx T := by have := h.1; omega
theorem ltA0 {T : Sh} {a : Nat} (h : ShA T a) : a < nx T := by have := h.1; omega
theorem kA0 {T : Sh} {a : Nat} (h : ShA T a) : kd T (a) = 0 := h.2.1
theorem kA1 {T : Sh} {a : Nat} (h : ShA T a) : kd T (a + 1) = 20 := h.2.2.1.1.1
theorem lA1 {T : Sh} {a : Nat} (h : ShA T a) : ln T (a + 1) = 512 := h.2.2.1.1.2
theorem kA2 {T : Sh} {a : Nat} (h : ShA T a) : kd T (a + 2) = 23 := h.2.2.1.2.1
theorem lA2 {T : Sh} {a : Nat} (h : ShA T a) : ln T (a + 2) = 4 := h.2.2.1.2.2
theorem rA0_0 {T : Sh} {a : Nat} (h : ShA T a) : rf T (a) 0 = some (a + 1) := h.2.2.2.1
theorem rA0_1 {T : Sh} {a : Nat} (h : ShA T a) : rf T (a) 1 = some (a + 2) := h.2.2.2.2
def ShZ (T : Sh) (z : Nat) : Prop := (z + 4 ≤ 291 ∧ 291 ≤ nx T) ∧ (kd T (z) = 8) ∧ ((kd T (z + 1) = 23 ∧ ln T (z + 1) = 1024) ∧ (kd T (z + 2) = 20 ∧ ln T (z + 2) = 256) ∧ (kd T (z + 3) = 23 ∧ ln T (z + 3) = 4)) ∧ (rf T (z) 0 = some (z + 1) ∧ rf T (z) 1 = some (z + 2) ∧ rf T (z) 2 = some (z + 3))
theorem ltZ {T : Sh} {z : Nat} (h : ShZ T z) {k : Nat} (hk : k < 4) : z + k < nx T := by have := h.1; omega
theorem ltZ0 {T : Sh} {z : Nat} (h : ShZ T z) : z < nx T := by have := h.1; omega
theorem kZ0 {T : Sh} {z : Nat} (h : ShZ T z) : kd T (z) = 8 := h.2.1
theorem kZ1 {T : Sh} {z : Nat} (h : ShZ T z) : kd T (z + 1) = 23 := h.2.2.1.1.1
theorem lZ1 {T : Sh} {z : Nat} (h : ShZ T z) : ln T (z + 1) = 1024 := h.2.2.1.1.2
theorem kZ2 {T : Sh} {z : Nat} (h : ShZ T z) : kd T (z + 2) = 20 := h.2.2.1.2.1.1
theorem lZ2 {T : Sh} {z : Nat} (h : ShZ T z) : ln T (z + 2) = 256 := h.2.2.1.2.1.2
theorem kZ3 {T : Sh} {z : Nat} (h : ShZ T z) : kd T (z + 3) = 23 := h.2.2.1.2.2.1
theorem lZ3 {T : Sh} {z : Nat} (h : ShZ T z) : ln T (z + 3) = 4 := h.2.2.1.2.2.2
theorem rZ0_0 {T : Sh} {z : Nat} (h : ShZ T z) : rf T (z) 0 = some (z + 1) := h.2.2.2.1
theorem rZ0_1 {T : Sh} {z : Nat} (h : ShZ T z) : rf T (z) 1 = some (z + 2) := h.2.2.2.2.1
theorem rZ0_2 {T : Sh} {z : Nat} (h : ShZ T z) : rf T (z) 2 = some (z + 3) := h.2.2.2.2.2
def ShP (T : Sh) (u : Nat) : Prop := (u + 2 ≤ 291 ∧ 291 ≤ nx T) ∧ (kd T (u) = 6) ∧ ((kd T (u + 1) = 20 ∧ ln T (u + 1) = 9)) ∧ (rf T (u) 0 = some (u + 1))
theorem ltP {T : Sh} {u : Nat} (h : ShP T u) {k : Nat} (hk : k < 2) : u + k < nx T := by have := h.1; omega
theorem ltP0 {T : Sh} {u : Nat} (h : ShP T u) : u < nx T := by have := h.1; omega
theorem kP0 {T : Sh} {u : Nat} (h : ShP T u) : kd T (u) = 6 := h.2.1
theorem kP1 {T : Sh} {u : Nat} (h : ShP T u) : kd T (u + 1) = 20 := h.2.2.1.1
theorem lP1 {T : Sh} {u : Nat} (h : ShP T u) : ln T (u + 1) = 9 := h.2.2.1.2
theorem rP0_0 {T : Sh} {u : Nat} (h : ShP T u) : rf T (u) 0 = some (u + 1) := h.2.2.2
