section M35
variable {G : Gl} {d : Nat} {T : Sh} {I : Mi} {N : Nat → Int} {Q : Option AV → Sh → Mi → Prop}
/-- an entry of the ledger is a run of an order, a part of an eight, or a run of the row -/
def cdOk (N : Nat → Int) (q n k : Nat) : Prop :=
  (∃ a p b m : Nat, a < 2 ∧ p < q ∧ b + m ≤ n ∧ 1 ≤ m ∧ N (k + 3902) = cdL 0 a p b m) ∨
  (∃ a e j : Nat, a < 2 ∧ 8 * e + 8 ≤ n ∧ j ≤ 3 ∧ N (k + 3902) = cdL 1 a 0 e j) ∨
  (∃ a i : Nat, a < 2 ∧ i < 30 ∧ N (k + 3902) = cdL 2 a 0 i 0)
def LdOk (N : Nat → Int) (q n : Nat) : Prop := ∀ k, k < tN N → cdOk N q n k
theorem cd_0 {N : Nat → Int} {k a p b m : Nat} (ha : a < 2) (hp : p < 6) (hb : b + m ≤ 256) (h : N (k + 3902) = cdL 0 a p b m) : tkN N k = 0 ∧ tpN N k 2 1 = (a : Int) ∧ tpN N k 6 3 = (p : Int) ∧ tpN N k 9 9 = (b : Int) ∧ tpN N k 18 9 = (m : Int) := by
  have e := cdL_nat (q := 0) (a := a) (b := p) (c := b) (e := m) (by decide) ha (by omega) (by omega) (by omega)
  have hN : cdN N k = ((cdV 0 a p b m : Nat) : Int) := by unfold cdN; rw [Int.toNat_natCast, h]; exact e
  unfold tkN tpN
  rw [hN, tp_m1, tp_m3, tp_m9]
  have f : ∀ f x : Nat, f < 32 → ian (isr (cdV 0 a p b m : Nat) (f : Int)) ((2 ^ x - 1 : Nat) : Int) = ((cdV 0 a p b m / 2 ^ f % 2 ^ x : Nat) : Int) := fun f x hf => cd_p hf (by decide) ha (by omega) (by omega) (by omega)
  refine ⟨cd_k (by decide) ha (by omega) (by omega) (by omega), (f 2 1 (by decide)).trans ?_, (f 6 3 (by decide)).trans ?_, (f 9 9 (by decide)).trans ?_, (f 18 9 (by decide)).trans ?_⟩
  · rw [show (2 : Nat) ^ 2 = 4 by decide, show (2 : Nat) ^ 1 = 2 by decide]; unfold cdV; omega
  · rw [show (2 : Nat) ^ 6 = 64 by decide, show (2 : Nat) ^ 3 = 8 by decide]; unfold cdV; omega
  · rw [show (2 : Nat) ^ 9 = 512 by decide]; unfold cdV; omega
  · rw [show (2 : Nat) ^ 18 = 262144 by decide, show (2 : Nat) ^ 9 = 512 by decide]; unfold cdV; omega
theorem cd_1 {N : Nat → Int} {k a e j : Nat} (ha : a < 2) (he : 8 * e + 8 ≤ 256) (hj : j ≤ 3) (h : N (k + 3902) = cdL 1 a 0 e j) : tkN N k = 1 ∧ tpN N k 2 1 = (a : Int) ∧ tpN N k 9 9 = (e : Int) ∧ tpN N k 18 9 = (j : Int) := by
  have e1 := cdL_nat (q := 1) (a := a) (b := 0) (c := e) (e := j) (by decide) ha (by omega) (by omega) (by omega)
  have hN : cdN N k = ((cdV 1 a 0 e j : Nat) : Int) := by unfold cdN; rw [Int.toNat_natCast, h]; exact e1
  unfold tkN tpN
  rw [hN, tp_m1, tp_m9]
  have f : ∀ f x : Nat, f < 32 → ian (isr (cdV 1 a 0 e j : Nat) (f : Int)) ((2 ^ x - 1 : Nat) : Int) = ((cdV 1 a 0 e j / 2 ^ f % 2 ^ x : Nat) : Int) := fun f x hf => cd_p hf (by decide) ha (by omega) (by omega) (by omega)
  refine ⟨cd_k (by decide) ha (by omega) (by omega) (by omega), (f 2 1 (by decide)).trans ?_, (f 9 9 (by decide)).trans ?_, (f 18 9 (by decide)).trans ?_⟩
  · rw [show (2 : Nat) ^ 2 = 4 by decide, show (2 : Nat) ^ 1 = 2 by decide]; unfold cdV; omega
  · rw [show (2 : Nat) ^ 9 = 512 by decide]; unfold cdV; omega
  · rw [show (2 : Nat) ^ 18 = 262144 by decide, show (2 : Nat) ^ 9 = 512 by decide]; unfold cdV; omega
theorem cd_2 {N : Nat → Int} {k a i : Nat} (ha : a < 2) (hi : i < 30) (h : N (k + 3902) = cdL 2 a 0 i 0) : tkN N k = 2 ∧ tpN N k 2 1 = (a : Int) ∧ tpN N k 9 9 = (i : Int) := by
  have e1 := cdL_nat (q := 2) (a := a) (b := 0) (c := i) (e := 0) (by decide) ha (by omega) (by omega) (by omega)
  have hN : cdN N k = ((cdV 2 a 0 i 0 : Nat) : Int) := by unfold cdN; rw [Int.toNat_natCast, h]; exact e1
  unfold tkN tpN
  rw [hN, tp_m1, tp_m9]
  have f : ∀ f x : Nat, f < 32 → ian (isr (cdV 2 a 0 i 0 : Nat) (f : Int)) ((2 ^ x - 1 : Nat) : Int) = ((cdV 2 a 0 i 0 / 2 ^ f % 2 ^ x : Nat) : Int) := fun f x hf => cd_p hf (by decide) ha (by omega) (by omega) (by omega)
  refine ⟨cd_k (by decide) ha (by omega) (by omega) (by omega), (f 2 1 (by decide)).trans ?_, (f 9 9 (by decide)).trans ?_⟩
  · rw [show (2 : Nat) ^ 2 = 4 by decide, show (2 : Nat) ^ 1 = 2 by decide]; unfold cdV; omega
  · rw [show (2 : Nat) ^ 9 = 512 by decide]; unfold cdV; omega
theorem cdOk_h {N : Nat → Int} {q n k : Nat} (h : cdOk N q n k) (hq : q ≤ 6) (hn : n ≤ 256) : (tkN N k = 0 → tpN N k 6 3 < 6 ∧ tpN N k 9 9 + tpN N k 18 9 ≤ 256) ∧ (tkN N k = 1 → tpN N k 9 9 < 32) := by
  rcases h with ⟨a, p, b, m, h1, h2, h3, h4, h5⟩ | ⟨a, e, j, h1, h2, h3, h4⟩ | ⟨a, i, h1, h2, h3⟩
  · obtain ⟨e1, e2, e3, e4, e5⟩ := cd_0 h1 (by omega) (by omega) h5
    rw [e1, e3, e4, e5]
    exact ⟨fun _ => by omega, fun h => absurd h (by decide)⟩
  · obtain ⟨e1, e2, e3, e4⟩ := cd_1 h1 (by omega) h3 h4
    rw [e1, e3]
    exact ⟨fun h => absurd h (by decide), fun _ => by omega⟩
  · obtain ⟨e1, e2, e3⟩ := cd_2 h1 h2 h3
    rw [e1]
    exact ⟨fun h => absurd h (by decide), fun h => absurd h (by decide)⟩
abbrev SZ := (Nat → Int) × (Nat → Int) × (Nat → Int) × Int
def tkD (n : Nat) (D : SZ) : SZ :=
  if (rdF D.2.1 D.2.2.1 n 0 D.1).1 = 1 then ((rdF D.2.1 D.2.2.1 n 0 D.1).2, bsS (rdF D.2.1 D.2.2.1 n 0 D.1).2 D.2.1 (lsS (rdF D.2.1 D.2.2.1 n 0 D.1).2 n n 0).toNat 8, un D.2.2.1 (lsS (rdF D.2.1 D.2.2.1 n 0 D.1).2 n n 0).toNat 1, w32 (D.2.2.2 + 1))
  else ((rdF D.2.1 D.2.2.1 n 0 D.1).2, D.2)
def tlD (N : Nat → Int) (n : Nat) (D : SZ) : Nat → SZ
  | 0 => D
  | k + 1 => tkD n (stF N n k (tlD N n D k).1, (tlD N n D k).2)
theorem tlD_succ (N : Nat → Int) (n : Nat) (D : SZ) (k : Nat) : tlD N n D (k + 1) = tkD n (stF N n k (tlD N n D k).1, (tlD N n D k).2) := rfl
theorem c_tk {n : Nat} {D : SZ} {H : Nat → Int} (hT : ShM T) (hd : 2 ≤ d) (hn : N 1 = (n : Int)) (hn2 : n ≤ 256) (hq : Q none T (sr (sr (sr (sr (sr I 288 ((tkD n D).1)) 289 ((tkD n D).2.1)) 290 ((tkD n D).2.2.1)) 274 (un H 23 (tkD n D).2.2.2)) 283 N)) : EvE G mX12_takesSet d [aR 274] T (sr (sr (sr (sr (sr I 288 D.1) 289 D.2.1) 290 D.2.2.1) 274 (un H 23 D.2.2.2)) 283 N) Q := by
  refine c_takesSet (n := n) hT hd hn hn2 ?_ ?_
  · intro h
    have e : tkD n D = ((rdF D.2.1 D.2.2.1 n 0 D.1).2, D.2) := by unfold tkD; rw [if_neg (by rw [h]; decide)]
    rw [e] at hq
    exact hq
  · intro h p hp
    have e : tkD n D = ((rdF D.2.1 D.2.2.1 n 0 D.1).2, bsS (rdF D.2.1 D.2.2.1 n 0 D.1).2 D.2.1 p 8, un D.2.2.1 p 1, w32 (D.2.2.2 + 1)) := by
      unfold tkD
      rw [if_pos h, hp, Int.toNat_natCast]
    rw [e] at hq
    rw [un_un, un_at]
    exact hq
theorem c_ls {n q k : Nat} {S Z Y H : Nat → Int} (hT : ShM T) (hd : 2 ≤ d) (hn : N 1 = (n : Int)) (hn2 : n ≤ 256) (hR : Rng N) (hL : LdOk N q n) (hq6 : q ≤ 6) (hk : k < tN N) (hq : Q none T (sr (sr (sr (sr (sr I 288 (stF N n k S)) 289 Z) 290 Y) 274 H) 283 N)) : EvE G mX12_laysSet d [aR 274, aI ((k : Nat) : Int)] T (sr (sr (sr (sr (sr I 288 S) 289 Z) 290 Y) 274 H) 283 N) Q := by
  have h := cdOk_h (hL k hk) hq6 hn2
  have ht := ok_3.mp (hR 3)
  have ht2 := tN_rd hR
  exact c_laysSet (n := n) hT hd hn hn2 (Rng_O hR) (by omega) (by omega) h.1 h.2 hq
theorem c_takesLedger {n q : Nat} {D : SZ} {H : Nat → Int} (hT : ShM T) (hd : 3 ≤ d) (hn : N 1 = (n : Int)) (hn2 : n ≤ 256) (hR : Rng N) (hL : LdOk N q n) (hq6 : q ≤ 6) (hq : Q none T (sr (sr (sr (sr (sr I 288 ((tlD N n D (tN N)).1)) 289 ((tlD N n D (tN N)).2.1)) 290 ((tlD N n D (tN N)).2.2.1)) 274 (un H 23 (tlD N n D (tN N)).2.2.2)) 283 N)) : EvE G mX12_takesLedger d [aR 274] T (sr (sr (sr (sr (sr I 288 D.1) 289 D.2.1) 290 D.2.2.1) 274 (un H 23 D.2.2.2)) 283 N) Q := by
  have ht3 := ok_3.mp (hR 3)
  have ht4 := tN_rd hR
  refine EvE.mk (lv0 := [some (aR 274), none]) (Nat.le_of_ble_eq_true rfl) (by decide +kernel) rfl ?_
  refine r_iconst (pc := 0) dX12_takesLedger_0 (in32_of rfl) ?_
  refine r_istore_n (pc := 1) (i := 1) (lv' := [_, _]) dX12_takesLedger_1 rfl (by decide) rfl ?_
  refine loop1 (fun (k : Nat) => k ≤ tN N) (fun (k : Nat) => tN N - k) (fun (k : Nat) => [some (aR 274), some (aI ((k : Nat) : Int))]) (fun _ => T) (fun (k : Nat) => sr (sr (sr (sr (sr I 288 ((tlD N n D k).1)) 289 ((tlD N n D k).2.1)) 290 ((tlD N n D k).2.2.1)) 274 (un H 23 (tlD N n D k).2.2.2)) 283 N) ?_ 0 (Nat.zero_le _)
  intro k hP ih
  have hP : k ≤ tN N := hP
  refine (?_ : Ev G mX12_takesLedger d 2 [some (aR 274), some (aI ((k : Nat) : Int))] [] T (sr (sr (sr (sr (sr I 288 ((tlD N n D k).1)) 289 ((tlD N n D k).2.1)) 290 ((tlD N n D k).2.2.1)) 274 (un H 23 (tlD N n D k).2.2.2)) 283 N) Q)
  refine r_iload_n (pc := 2) (i := 1) dX12_takesLedger_2 rfl rfl ?_
  refine r_aload_n (pc := 3) (i := 0) dX12_takesLedger_3 rfl rfl ?_
  refine r_getfr (pc := 4) (b := 283) cks dX12_takesLedger_4 fl_X12_37 rfl (kM274 hT) (ltM hT (by omega)) (rM11 hT) ?_
  refine r_iconst (pc := 7) dX12_takesLedger_7 (in32_of rfl) ?_
  refine r_ild (pc := 8) (3) dX12_takesLedger_8 (kM283 hT) (ltM hT (by omega)) (by omega) (by rw [lM283 hT]; omega) ?_
  refine r_top (b := N 3) (sr_at _ _ _ _) ?_
  refine r_top (b := (((tN N) : Nat) : Int)) (tN_rd hR) ?_
  refine r_icmp_ge (pc := 9) (tgt := 27) dX12_takesLedger_9 rfl (fun c9 => ?_) (fun c9 => ?_)
  · exact r_vret (pc := 27) dX12_takesLedger_27 trivial (by rw [show tN N = k by omega] at hq; exact hq)
  · refine r_aload_n (pc := 12) (i := 0) dX12_takesLedger_12 rfl rfl ?_
    refine r_iload_n (pc := 13) (i := 1) dX12_takesLedger_13 rfl rfl ?_
    refine r_callV0 (pc := 14) (d - 1) [aI ((k : Nat) : Int)] dX12_takesLedger_14 (CV.mk2 mk_X12_laysSet lk_X12_266) (RC.of (ltM hT (by omega)) (kM274 hT) (by decide) rfl) rfl rfl (by omega) (Nat.le_of_ble_eq_true rfl) (Nat.le_of_ble_eq_true rfl) (c_ls (n := n) (q := q) (k := k) hT (by omega) hn hn2 hR hL hq6 (by omega) ?_)
    refine ⟨rfl, fun _ => ?_⟩
    refine r_aload_n (pc := 17) (i := 0) dX12_takesLedger_17 rfl rfl ?_
    refine r_callV0 (pc := 18) (d - 1) [] dX12_takesLedger_18 (CV.mk2 mk_X12_takesSet lk_X12_281) (RC.of (ltM hT (by omega)) (kM274 hT) (by decide) rfl) rfl rfl (by omega) (Nat.le_of_ble_eq_true rfl) (Nat.le_of_ble_eq_true rfl) (c_tk (n := n) (D := (stF N n k (tlD N n D k).1, (tlD N n D k).2)) hT (by omega) hn hn2 ?_)
    refine ⟨rfl, fun _ => ?_⟩
    refine r_iincN (pc := 21) (i := 1) (c := ((k + 1 : Nat) : Int)) (lv' := [_, _]) dX12_takesLedger_21 rfl (by decide) (by unfold w32; omega) rfl ?_
    refine r_goto (pc := 24) (tgt := 2) dX12_takesLedger_24 rfl ?_
    exact ih (k + 1) (by omega) (by omega)
end M35
