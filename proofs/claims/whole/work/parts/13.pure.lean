/-! rows: what the reference keeps of a hen is the abstract state of both -/
abbrev Rw : Type := Nat → Int32
abbrev iN (x : Int32) : Nat := x.toNatClampNeg
def at9 (t f : Nat) : Nat := 18 + 7 * t + f
def nC (r : Rw) : Nat := iN (r 4)
def nT (r : Rw) : Nat := iN (r 3)
def cr (r : Rw) (i : Nat) : Nat := iN (r (88 + i))
def sm (f : Nat → Int32) : Nat → Int32
  | 0 => 0
  | n + 1 => sm f n + f n
/-- a number of 0 to n -/
def rg (x : Int32) (n : Nat) : Prop := iN x ≤ n ∧ x = nI (iN x)
theorem rg_nI {j n : Nat} (h : j ≤ n) (hn : n < 2 ^ 31) : rg (nI j) n := by
  unfold rg iN
  rw [nI_clamp (by omega)]
  exact ⟨h, rfl⟩
theorem rg_of {x : Int32} {n j : Nat} (hx : x = nI j) (h : j ≤ n) (hn : n < 2 ^ 31) : rg x n := by rw [hx]; exact rg_nI h hn
theorem rg_le {x : Int32} {n m : Nat} (h : rg x n) (hm : n ≤ m) : rg x m := ⟨Nat.le_trans h.1 hm, h.2⟩
theorem iN_nI {j : Nat} (h : j < 2 ^ 31) : iN (nI j) = j := nI_clamp h
def bulkR (r : Rw) : Int32 := sm (fun i => r (at9 (cr r i) 1)) (nC r)
abbrev roomR (r : Rw) (t : Nat) : Prop := r 4 < 8 ∧ bulkR r + r (at9 t 1) ≤ r 1
def becR (r : Rw) (t : Nat) (h : Int32) : Rw := upd (upd (upd r (at9 t 4) h) (at9 t 5) 0) (at9 t 6) 0
def feedR (r : Rw) (t : Nat) : Rw := upd (upd (becR r t 1) (88 + nC r) (nI t)) 4 (r 4 + 1)
def tkK (k : Int32) : Int32 := (stI 150).getD (iN k) 0
def stK (k : Int32) : Int32 := (stI 151).getD (iN k) 0
def mx0 (x : Int32) : Int32 := if 0 < x then x else 0
def mn99 (x : Int32) : Int32 := if x < 99 then x else 99
def leK (k w s : Int32) : Int32 := if k = 1 ∨ k = 5 then w / 2 else if k = 3 then mx0 (w - s / 2) else if k = 4 then mx0 (w - s / 2) + 5 else if k = 6 then (if s = 0 then w else 0) else mx0 (w - s)
def saR (r : Rw) (x : Int32) : Int32 := if 0 ≤ x ∧ x < r 4 then stK (r (at9 (cr r (iN x)) 0)) else 0
def gN (r : Rw) : Nat → Rw
  | 0 => r
  | i + 1 => let q := gN r i; let t := cr r i; upd (upd q (at9 t 5) (q (at9 t 5) + 1)) (at9 t 6) (mn99 (q (at9 t 6) + saR r (nI i - 1) + saR r (nI (i + 1))))
def WR (r : Rw) : Prop := rg (r 3) 10 ∧ rg (r 4) 8 ∧ (∀ i, i < nC r → rg (r (88 + i)) 9) ∧ ∀ t, t < 10 → rg (r (at9 t 0)) 6 ∧ rg (r (at9 t 1)) 9 ∧ rg (r (at9 t 2)) 99 ∧ rg (r (at9 t 3)) 1 ∧ rg (r (at9 t 6)) 99
theorem wr_T {r : Rw} (h : WR r) : nT r ≤ 10 ∧ r 3 = nI (nT r) := h.1
theorem wr_C {r : Rw} (h : WR r) : nC r ≤ 8 ∧ r 4 = nI (nC r) := h.2.1
theorem wr_cr {r : Rw} (h : WR r) {i : Nat} (hi : i < nC r) : cr r i < 10 ∧ r (88 + i) = nI (cr r i) := ⟨by have := (h.2.2.1 i hi).1; unfold cr; omega, (h.2.2.1 i hi).2⟩
/-- the class's hen at b is the row's -/
def HR (M : Mem) (b : Nat) (r : Rw) : Prop := (M b 0 = r 3 ∧ M b 9 = r 4 ∧ M b 10 = r 1 ∧ M b 11 = r 2) ∧ (∀ f, f < 7 → ∀ t, t < 10 → M (b + 1 + f) t = r (at9 t f)) ∧ ∀ i, i < nC r → M (b + 8) i = r (88 + i)
/-- nothing but the hen at b has changed -/
def Ou (b : Nat) (M M' : Mem) : Prop := ∀ k, (k < b ∨ b + 9 ≤ k) → M' k = M k
theorem L_bulkIn {d b : Nat} {M : Mem} {r : Rw} (hb : isHen b) (h : HR M b r) (w : WR r) : ∀ (n i : Nat) (s : Int32), i + n = nC r → s = sm (fun j => r (at9 (cr r j) 1)) i →
    lim (call d) none 1 cX1_bulkIn (some .int) 4 [some (.ref b), some (.int s), some (.int (nI i))] [] M = some (some (.int (bulkR r)), M) := by
  have h8 := wr_C w
  intro n
  induction n with
  | zero =>
    intro i s hi hs
    rw [sX1_bulkIn_4]
    simp only [sX1_bulkIn_0, sX1_bulkIn_1, sX1_bulkIn_2, sX1_bulkIn_3, sX1_bulkIn_5, sX1_bulkIn_6, sX1_bulkIn_9, sX1_bulkIn_12, sX1_bulkIn_13, sX1_bulkIn_14, sX1_bulkIn_17, sX1_bulkIn_18, sX1_bulkIn_21, sX1_bulkIn_22, sX1_bulkIn_23, sX1_bulkIn_24, sX1_bulkIn_25, sX1_bulkIn_26, sX1_bulkIn_29, sX1_bulkIn_32, sX1_bulkIn_33, opK_some, guK_true, calK_some, rk_nil, rk_int, rk_ref, tl_some, tl_none, nb_int, nb_0, nb_1, nb_if, nb_if', hs_9 hb, hs_2 hb, hs_8 hb, ha_2 hb, ha_8 hb, h.1.2.1, h8.2]
    rw [if_pos (nI_le (by omega) (by omega)), hs]
    rw [show i = nC r by omega]
    rfl
  | succ n ih =>
    intro i s hi hs
    rw [sX1_bulkIn_4]
    obtain ⟨c1, c2⟩ := wr_cr w (i := i) (by omega)
    simp only [sX1_bulkIn_0, sX1_bulkIn_1, sX1_bulkIn_2, sX1_bulkIn_3, sX1_bulkIn_5, sX1_bulkIn_6, sX1_bulkIn_9, sX1_bulkIn_12, sX1_bulkIn_13, sX1_bulkIn_14, sX1_bulkIn_17, sX1_bulkIn_18, sX1_bulkIn_21, sX1_bulkIn_22, sX1_bulkIn_23, sX1_bulkIn_24, sX1_bulkIn_25, sX1_bulkIn_26, sX1_bulkIn_29, sX1_bulkIn_32, sX1_bulkIn_33, opK_some, guK_true, calK_some, rk_nil, rk_int, rk_ref, tl_some, tl_none, nb_int, nb_0, nb_1, nb_if, nb_if', hs_9 hb, hs_2 hb, hs_8 hb, ha_2 hb, ha_8 hb, h.1.2.1, h8.2]
    rw [if_neg (nI_ge (by omega) (by omega)), inb_nI (by omega) (by omega), guK_true, nI_clamp (by omega), h.2.2 i (by omega), c2, inb_nI c1 (by omega), guK_true, nI_clamp (by omega), show b + 2 = b + 1 + 1 from rfl, h.2.1 1 (by omega) _ c1, nI_1]
    exact ih (i + 1) _ (by omega) (by rw [hs]; rfl)
theorem C_bulkIn {d b : Nat} {M : Mem} {r : Rw} (hb : isHen b) (h : HR M b r) (w : WR r) : call (d + 1) 16 [.ref b] M = some (some (.int (bulkR r)), M) := by
  rw [nX1_bulkIn]
  simp only [sX1_bulkIn_0, sX1_bulkIn_1, sX1_bulkIn_2, sX1_bulkIn_3, sX1_bulkIn_5, sX1_bulkIn_6, sX1_bulkIn_9, sX1_bulkIn_12, sX1_bulkIn_13, sX1_bulkIn_14, sX1_bulkIn_17, sX1_bulkIn_18, sX1_bulkIn_21, sX1_bulkIn_22, sX1_bulkIn_23, sX1_bulkIn_24, sX1_bulkIn_25, sX1_bulkIn_26, sX1_bulkIn_29, sX1_bulkIn_32, sX1_bulkIn_33, opK_some, guK_true, calK_some, rk_nil, rk_int, rk_ref, tl_some, tl_none, nb_int, nb_0, nb_1, nb_if, nb_if']
  rw [← nI_0]
  exact L_bulkIn hb h w (nC r) 0 _ (by omega) rfl
theorem C_hasRoom {d b t : Nat} {M : Mem} {r : Rw} (hb : isHen b) (h : HR M b r) (w : WR r) (ht : t < 10) : call (d + 2) 15 [.ref b, .int (nI t)] M = some (some (.int (if roomR r t then 1 else 0)), M) := by
  rw [nX1_hasRoom]
  simp only [sX1_hasRoom_0, sX1_hasRoom_1, sX1_hasRoom_4, sX1_hasRoom_6, sX1_hasRoom_9, sX1_hasRoom_10, sX1_hasRoom_13, sX1_hasRoom_14, sX1_hasRoom_17, sX1_hasRoom_18, sX1_hasRoom_19, sX1_hasRoom_20, sX1_hasRoom_21, sX1_hasRoom_24, sX1_hasRoom_27, sX1_hasRoom_28, sX1_hasRoom_31, sX1_hasRoom_32, opK_some, guK_true, calK_some, rk_nil, rk_int, rk_ref, tl_some, tl_none, nb_int, nb_0, nb_1, nb_if, nb_if', hen_c hb, hs_9 hb, hs_2 hb, hs_10 hb, ha_2 hb, C_bulkIn hb h w, inb_nI ht (by omega), nI_clamp (show t < 2 ^ 31 by omega), h.1.2.1, h.1.2.2.1]
  rw [show b + 2 = b + 1 + 1 from rfl, h.2.1 1 (by omega) t ht]
  unfold roomR
  by_cases h1 : 8 ≤ r 4
  · rw [if_pos h1, if_neg (fun z => Int32.not_lt.mpr h1 z.1)]
  · rw [if_neg h1]
    by_cases h2 : r 1 < bulkR r + r (at9 t 1)
    · rw [if_pos h2, if_neg (fun z => Int32.not_lt.mpr z.2 h2)]
    · rw [if_neg h2, if_pos ⟨Int32.not_le.mp h1, Int32.not_lt.mp h2⟩]
