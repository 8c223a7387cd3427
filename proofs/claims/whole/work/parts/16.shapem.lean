/-! the reference's shape: one object, 274, and its rows 275 .. 290 -/
def tabM : List (Nat × Nat × Nat) := [(275, 21, 200), (276, 21, 72), (277, 20, 9), (278, 20, 9), (279, 20, 9), (280, 20, 9), (281, 20, 9), (282, 22, 9), (283, 20, 17510), (284, 20, 17510), (285, 20, 210120), (286, 20, 35020), (287, 22, 2), (288, 20, 8), (289, 20, 2048), (290, 22, 256)]
def refM : List (Nat × Nat) := [(0, 275), (2, 276), (3, 277), (4, 278), (5, 279), (6, 280), (7, 281), (8, 282), (11, 283), (12, 284), (13, 285), (14, 286), (15, 287), (20, 288), (21, 289), (22, 290)]
def ShM (T : Sh) : Prop := 291 ≤ nx T ∧ kd T 274 = 12 ∧ (∀ q ∈ tabM, kd T q.1 = q.2.1 ∧ ln T q.1 = q.2.2) ∧ ∀ q ∈ refM, rf T 274 q.1 = some q.2
theorem ltM {T : Sh} (h : ShM T) {a : Nat} (ha : a < 291) : a < nx T := Nat.lt_of_lt_of_le ha h.1
theorem kM274 {T : Sh} (h : ShM T) : kd T 274 = 12 := h.2.1
theorem kM275 {T : Sh} (h : ShM T) : kd T 275 = 21 := (h.2.2.1 (275, 21, 200) (List.mem_of_getElem? (i := 0) rfl)).1
theorem lM275 {T : Sh} (h : ShM T) : ln T 275 = 200 := (h.2.2.1 (275, 21, 200) (List.mem_of_getElem? (i := 0) rfl)).2
theorem kM276 {T : Sh} (h : ShM T) : kd T 276 = 21 := (h.2.2.1 (276, 21, 72) (List.mem_of_getElem? (i := 1) rfl)).1
theorem lM276 {T : Sh} (h : ShM T) : ln T 276 = 72 := (h.2.2.1 (276, 21, 72) (List.mem_of_getElem? (i := 1) rfl)).2
theorem kM277 {T : Sh} (h : ShM T) : kd T 277 = 20 := (h.2.2.1 (277, 20, 9) (List.mem_of_getElem? (i := 2) rfl)).1
theorem lM277 {T : Sh} (h : ShM T) : ln T 277 = 9 := (h.2.2.1 (277, 20, 9) (List.mem_of_getElem? (i := 2) rfl)).2
theorem kM278 {T : Sh} (h : ShM T) : kd T 278 = 20 := (h.2.2.1 (278, 20, 9) (List.mem_of_getElem? (i := 3) rfl)).1
theorem lM278 {T : Sh} (h : ShM T) : ln T 278 = 9 := (h.2.2.1 (278, 20, 9) (List.mem_of_getElem? (i := 3) rfl)).2
theorem kM279 {T : Sh} (h : ShM T) : kd T 279 = 20 := (h.2.2.1 (279, 20, 9) (List.mem_of_getElem? (i := 4) rfl)).1
theorem lM279 {T : Sh} (h : ShM T) : ln T 279 = 9 := (h.2.2.1 (279, 20, 9) (List.mem_of_getElem? (i := 4) rfl)).2
theorem kM280 {T : Sh} (h : ShM T) : kd T 280 = 20 := (h.2.2.1 (280, 20, 9) (List.mem_of_getElem? (i := 5) rfl)).1
theorem lM280 {T : Sh} (h : ShM T) : ln T 280 = 9 := (h.2.2.1 (280, 20, 9) (List.mem_of_getElem? (i := 5) rfl)).2
theorem kM281 {T : Sh} (h : ShM T) : kd T 281 = 20 := (h.2.2.1 (281, 20, 9) (List.mem_of_getElem? (i := 6) rfl)).1
theorem lM281 {T : Sh} (h : ShM T) : ln T 281 = 9 := (h.2.2.1 (281, 20, 9) (List.mem_of_getElem? (i := 6) rfl)).2
theorem kM282 {T : Sh} (h : ShM T) : kd T 282 = 22 := (h.2.2.1 (282, 22, 9) (List.mem_of_getElem? (i := 7) rfl)).1
theorem lM282 {T : Sh} (h : ShM T) : ln T 282 = 9 := (h.2.2.1 (282, 22, 9) (List.mem_of_getElem? (i := 7) rfl)).2
theorem kM283 {T : Sh} (h : ShM T) : kd T 283 = 20 := (h.2.2.1 (283, 20, 17510) (List.mem_of_getElem? (i := 8) rfl)).1
theorem lM283 {T : Sh} (h : ShM T) : ln T 283 = 17510 := (h.2.2.1 (283, 20, 17510) (List.mem_of_getElem? (i := 8) rfl)).2
theorem kM284 {T : Sh} (h : ShM T) : kd T 284 = 20 := (h.2.2.1 (284, 20, 17510) (List.mem_of_getElem? (i := 9) rfl)).1
theorem lM284 {T : Sh} (h : ShM T) : ln T 284 = 17510 := (h.2.2.1 (284, 20, 17510) (List.mem_of_getElem? (i := 9) rfl)).2
theorem kM285 {T : Sh} (h : ShM T) : kd T 285 = 20 := (h.2.2.1 (285, 20, 210120) (List.mem_of_getElem? (i := 10) rfl)).1
theorem lM285 {T : Sh} (h : ShM T) : ln T 285 = 210120 := (h.2.2.1 (285, 20, 210120) (List.mem_of_getElem? (i := 10) rfl)).2
theorem kM286 {T : Sh} (h : ShM T) : kd T 286 = 20 := (h.2.2.1 (286, 20, 35020) (List.mem_of_getElem? (i := 11) rfl)).1
theorem lM286 {T : Sh} (h : ShM T) : ln T 286 = 35020 := (h.2.2.1 (286, 20, 35020) (List.mem_of_getElem? (i := 11) rfl)).2
theorem kM287 {T : Sh} (h : ShM T) : kd T 287 = 22 := (h.2.2.1 (287, 22, 2) (List.mem_of_getElem? (i := 12) rfl)).1
theorem lM287 {T : Sh} (h : ShM T) : ln T 287 = 2 := (h.2.2.1 (287, 22, 2) (List.mem_of_getElem? (i := 12) rfl)).2
theorem kM288 {T : Sh} (h : ShM T) : kd T 288 = 20 := (h.2.2.1 (288, 20, 8) (List.mem_of_getElem? (i := 13) rfl)).1
theorem lM288 {T : Sh} (h : ShM T) : ln T 288 = 8 := (h.2.2.1 (288, 20, 8) (List.mem_of_getElem? (i := 13) rfl)).2
theorem kM289 {T : Sh} (h : ShM T) : kd T 289 = 20 := (h.2.2.1 (289, 20, 2048) (List.mem_of_getElem? (i := 14) rfl)).1
theorem lM289 {T : Sh} (h : ShM T) : ln T 289 = 2048 := (h.2.2.1 (289, 20, 2048) (List.mem_of_getElem? (i := 14) rfl)).2
theorem kM290 {T : Sh} (h : ShM T) : kd T 290 = 22 := (h.2.2.1 (290, 22, 256) (List.mem_of_getElem? (i := 15) rfl)).1
theorem lM290 {T : Sh} (h : ShM T) : ln T 290 = 256 := (h.2.2.1 (290, 22, 256) (List.mem_of_getElem? (i := 15) rfl)).2
theorem rM0 {T : Sh} (h : ShM T) : rf T 274 0 = some 275 := h.2.2.2 (0, 275) (List.mem_of_getElem? (i := 0) rfl)
theorem rM2 {T : Sh} (h : ShM T) : rf T 274 2 = some 276 := h.2.2.2 (2, 276) (List.mem_of_getElem? (i := 1) rfl)
theorem rM3 {T : Sh} (h : ShM T) : rf T 274 3 = some 277 := h.2.2.2 (3, 277) (List.mem_of_getElem? (i := 2) rfl)
theorem rM4 {T : Sh} (h : ShM T) : rf T 274 4 = some 278 := h.2.2.2 (4, 278) (List.mem_of_getElem? (i := 3) rfl)
theorem rM5 {T : Sh} (h : ShM T) : rf T 274 5 = some 279 := h.2.2.2 (5, 279) (List.mem_of_getElem? (i := 4) rfl)
theorem rM6 {T : Sh} (h : ShM T) : rf T 274 6 = some 280 := h.2.2.2 (6, 280) (List.mem_of_getElem? (i := 5) rfl)
theorem rM7 {T : Sh} (h : ShM T) : rf T 274 7 = some 281 := h.2.2.2 (7, 281) (List.mem_of_getElem? (i := 6) rfl)
theorem rM8 {T : Sh} (h : ShM T) : rf T 274 8 = some 282 := h.2.2.2 (8, 282) (List.mem_of_getElem? (i := 7) rfl)
theorem rM11 {T : Sh} (h : ShM T) : rf T 274 11 = some 283 := h.2.2.2 (11, 283) (List.mem_of_getElem? (i := 8) rfl)
theorem rM12 {T : Sh} (h : ShM T) : rf T 274 12 = some 284 := h.2.2.2 (12, 284) (List.mem_of_getElem? (i := 9) rfl)
theorem rM13 {T : Sh} (h : ShM T) : rf T 274 13 = some 285 := h.2.2.2 (13, 285) (List.mem_of_getElem? (i := 10) rfl)
theorem rM14 {T : Sh} (h : ShM T) : rf T 274 14 = some 286 := h.2.2.2 (14, 286) (List.mem_of_getElem? (i := 11) rfl)
theorem rM15 {T : Sh} (h : ShM T) : rf T 274 15 = some 287 := h.2.2.2 (15, 287) (List.mem_of_getElem? (i := 12) rfl)
theorem rM20 {T : Sh} (h : ShM T) : rf T 274 20 = some 288 := h.2.2.2 (20, 288) (List.mem_of_getElem? (i := 13) rfl)
theorem rM21 {T : Sh} (h : ShM T) : rf T 274 21 = some 289 := h.2.2.2 (21, 289) (List.mem_of_getElem? (i := 14) rfl)
theorem rM22 {T : Sh} (h : ShM T) : rf T 274 22 = some 290 := h.2.2.2 (22, 290) (List.mem_of_getElem? (i := 15) rfl)
