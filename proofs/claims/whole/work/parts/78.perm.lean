/-! orders: all of them, the least first -/
def pmF : Nat → List Nat → List (List Nat)
  | 0, _ => [[]]
  | m + 1, xs => xs.flatMap (fun x => (pmF m (xs.filter (fun y => y != x))).map (fun ys => x :: ys))
theorem pm_map {e : Nat → Nat} (he : ∀ x y, e x = e y → x = y) : ∀ (m : Nat) (xs : List Nat), pmF m (xs.map e) = (pmF m xs).map (fun l => l.map e) := by
  intro m
  induction m with
  | zero => intro xs; rfl
  | succ m ih =>
    intro xs
    show (xs.map e).flatMap (fun x => (pmF m ((xs.map e).filter (fun y => y != x))).map (fun ys => x :: ys)) = (xs.flatMap (fun x => (pmF m (xs.filter (fun y => y != x))).map (fun ys => x :: ys))).map (fun l => l.map e)
    rw [List.flatMap_map, List.map_flatMap]
    congr 1
    funext x
    have ef : (xs.map e).filter (fun y => y != e x) = (xs.filter (fun y => y != x)).map e := by
      rw [List.filter_map]
      congr 1
      apply List.filter_congr
      intro y _
      show (e y != e x) = (y != x)
      by_cases c : y = x
      · rw [c]
        simp
      · have : ¬ e y = e x := fun z => c (he _ _ z)
        exact (bne_iff_ne.mpr this).trans (bne_iff_ne.mpr c).symm
    rw [ef, ih, List.map_map, List.map_map]
    rfl
abbrev nxL (p : List Nat) (size : Nat) : List Nat := (List.range size).map (nxF (lrow p) size)
def chk (size : Nat) : List (List Nat) → Bool
  | [] => false
  | [p] => iS (lrow p) (size - 1) == 0
  | p :: q :: rest => (iS (lrow p) (size - 1) != 0) && (nxL p size == q) && chk size (q :: rest)
theorem chk_ok : ∀ size, size < 6 → chk size (pmF size (List.range size)) = true := by decide +kernel
theorem pm_len : ∀ size, size < 6 → (pmF size (List.range size)).length ≤ 120 := by decide +kernel
theorem pm_hd : ∀ size, size < 6 → (pmF size (List.range size)).head? = some (List.range size) := by decide +kernel
/-- both rows run alike -/
theorem iS_e {e a b : Nat → Nat} {size : Nat} (he : ∀ x y, e x < e y ↔ x < y) (h : ∀ k, k < size → a k = e (b k)) : ∀ n, n < size → iS a n = iS b n := by
  intro n
  induction n with
  | zero => intro _; rfl
  | succ n ih =>
    intro hn
    show (if a (n + 1) < a n then iS a n else n + 1) = (if b (n + 1) < b n then iS b n else n + 1)
    rw [h n (by omega), h (n + 1) hn, ih (by omega)]
    by_cases c : b (n + 1) < b n
    · rw [if_pos c, if_pos ((he _ _).mpr c)]
    · rw [if_neg c, if_neg (fun z => c ((he _ _).mp z))]
theorem jS_e {e a b : Nat → Nat} {size x : Nat} (he : ∀ x y, e x < e y ↔ x < y) (h : ∀ k, k < size → a k = e (b k)) (hx : x < size) : ∀ n, n < size → jS a x n = jS b x n := by
  intro n
  induction n with
  | zero => intro _; rfl
  | succ n ih =>
    intro hn
    show (if x < n + 1 ∧ a (n + 1) < a x then jS a x n else n + 1) = (if x < n + 1 ∧ b (n + 1) < b x then jS b x n else n + 1)
    rw [h x hx, h (n + 1) hn, ih (by omega)]
    by_cases c : x < n + 1 ∧ b (n + 1) < b x
    · rw [if_pos c, if_pos ⟨c.1, (he _ _).mpr c.2⟩]
    · rw [if_neg c, if_neg (fun z => c ⟨z.1, (he _ _).mp z.2⟩)]
theorem sw_e {e a b : Nat → Nat} {size x y : Nat} (h : ∀ k, k < size → a k = e (b k)) (hx : x < size) (hy : y < size) : ∀ k, k < size → swF a x y k = e (swF b x y k) := by
  intro k hk
  unfold swF
  by_cases c : k = y
  · rw [if_pos c, if_pos c, h x hx]
  · rw [if_neg c, if_neg c]
    by_cases d : k = x
    · rw [if_pos d, if_pos d, h y hy]
    · rw [if_neg d, if_neg d, h k hk]
theorem rv_e {e : Nat → Nat} {size : Nat} : ∀ (f x y : Nat) (a b : Nat → Nat), (∀ k, k < size → a k = e (b k)) → y < size → ∀ k, k < size → rvS f x y a k = e (rvS f x y b k) := by
  intro f
  induction f with
  | zero => intro x y a b h _ k hk; exact h k hk
  | succ f ih =>
    intro x y a b h hy k hk
    show (if x < y then rvS f (x + 1) (y - 1) (swF a x y) else a) k = e ((if x < y then rvS f (x + 1) (y - 1) (swF b x y) else b) k)
    by_cases c : x < y
    · rw [if_pos c, if_pos c]
      exact ih (x + 1) (y - 1) _ _ (sw_e h (by omega) hy) (by omega) k hk
    · rw [if_neg c, if_neg c]
      exact h k hk
theorem nx_e {e a b : Nat → Nat} {size : Nat} (he : ∀ x y, e x < e y ↔ x < y) (h : ∀ k, k < size → a k = e (b k)) (h0 : iS a (size - 1) ≠ 0) : ∀ k, k < size → nxF a size k = e (nxF b size k) := by
  intro k hk
  have hs : size - 1 < size := by omega
  have ei := iS_e he h (size - 1) hs
  have li := iS_le a (size - 1)
  have lj := jS_le a (iS a (size - 1) - 1) (size - 1)
  have ej := jS_e (x := iS a (size - 1) - 1) he h (by omega) (size - 1) hs
  unfold nxF
  rw [← ei, ← ej]
  exact rv_e _ _ _ _ _ (sw_e h (by omega) (by omega)) hs k hk
/-- the best one of all: the first that brings most -/
def obF (v : List Nat → Int32) : List (List Nat) → Int32 × List Nat → Int32 × List Nat
  | [], b => b
  | p :: ps, b => obF v ps (if b.1 < v p then (v p, p) else b)
theorem ob_app (v : List Nat → Int32) : ∀ (xs ys : List (List Nat)) (b : Int32 × List Nat), obF v (xs ++ ys) b = obF v ys (obF v xs b) := by
  intro xs
  induction xs with
  | nil => intro ys b; rfl
  | cons x xs ih => intro ys b; exact ih ys _
theorem fs_cg {q : Rw} {a b : Nat → Nat} {size k : Nat} (h : ∀ k, k < size → a k = b k) : fsR q a size k = fsR q b size k := by
  unfold fsR
  by_cases c : k < size
  · rw [h k c]
  · rw [if_neg (fun z => c z.1), if_neg (fun z => c z.1)]
theorem bN_cg {r : Rw} {a b : Nat → Nat} {size : Nat} (h : ∀ k, k < size → a k = b k) : ∀ k, bN r a size k = bN r b size k := by
  intro k
  induction k with
  | zero => rfl
  | succ k ih =>
    show dayR (fsR (bN r a size k) a size k) = dayR (fsR (bN r b size k) b size k)
    rw [ih, fs_cg h]
theorem bS_cg {r : Rw} {a b : Nat → Nat} {size n : Nat} (h : ∀ k, k < size → a k = b k) : bS r a size n = bS r b size n :=
  sm_cg n (fun k _ => by
    show worD (fsR (bN r a size k) a size k) = worD (fsR (bN r b size k) b size k)
    rw [bN_cg h, fs_cg h])
theorem fl_mono (s : Nat) : ∀ n i k, i < k → k < (fl s n).length → lrow (fl s n) i < lrow (fl s n) k := by
  intro n
  induction n with
  | zero => intro i k _ hk; exact absurd hk (Nat.not_lt_zero k)
  | succ n ih =>
    intro i k hik hk
    by_cases c : s.testBit n = true
    · rw [fl_1 c] at hk ⊢
      rw [List.length_append] at hk
      have hk' : k < (fl s n).length + 1 := hk
      rw [lrow_app, lrow_app, if_pos (show i < (fl s n).length by omega)]
      by_cases d : k < (fl s n).length
      · rw [if_pos d]
        exact ih i k hik d
      · rw [if_neg d, if_pos (by omega)]
        exact lrow_lt (by omega)
    · rw [fl_0 c] at hk ⊢
      exact ih i k hik hk
/-- the numbers of a set's things, on and on -/
def evF (l : List Nat) : Nat → Nat := fun k => if k < l.length then lrow l k else k + 100
theorem ev_mono {s n : Nat} (hn : n ≤ 10) : ∀ x y, evF (fl s n) x < evF (fl s n) y ↔ x < y := by
  have up : ∀ x y, x < y → evF (fl s n) x < evF (fl s n) y := by
    intro x y h
    unfold evF
    by_cases c : y < (fl s n).length
    · rw [if_pos c, if_pos (by omega)]
      exact fl_mono s n x y h c
    · rw [if_neg c]
      by_cases d : x < (fl s n).length
      · rw [if_pos d]
        have := lrow_lt d
        omega
      · rw [if_neg d]
        omega
  intro x y
  constructor
  · intro h
    rcases Nat.lt_trichotomy x y with c | c | c
    · exact c
    · rw [c] at h
      omega
    · have := up y x c
      omega
  · exact up x y
theorem ev_inj {s n : Nat} (hn : n ≤ 10) : ∀ x y, evF (fl s n) x = evF (fl s n) y → x = y := by
  intro x y h
  rcases Nat.lt_trichotomy x y with c | c | c
  · have := (ev_mono (s := s) hn x y).mpr c
    omega
  · exact c
  · have := (ev_mono (s := s) hn y x).mpr c
    omega
theorem ev_list (l : List Nat) : (List.range l.length).map (evF l) = l := by
  apply List.ext_getElem
  · rw [List.length_map, List.length_range]
  · intro i h1 h2
    rw [List.getElem_map, List.getElem_range]
    unfold evF
    rw [if_pos h2]
    show l.getD i 0 = _
    rw [List.getD_eq_getElem?_getD, List.getElem?_eq_getElem h2]
    rfl
theorem fl_up {s n : Nat} (h : s < 2 ^ n) : ∀ m, fl s (n + m) = fl s n := by
  intro m
  induction m with
  | zero => rfl
  | succ m ih =>
    have hb : ¬ s.testBit (n + m) = true := by
      rw [Nat.testBit_lt_two_pow (Nat.lt_of_lt_of_le h (p2_le (by omega)))]
      decide
    exact (fl_0 hb).trans ih
theorem fl_10 {s n : Nat} (h : s < 2 ^ n) (hn : n ≤ 10) : fl s 10 = fl s n := by
  have := fl_up h (10 - n)
  rw [show n + (10 - n) = 10 by omega] at this
  exact this
/-- one less -/
theorem fl_rm {s s' t : Nat} (h : ∀ k, s'.testBit k = (s.testBit k && (k != t))) : ∀ n, fl s' n = (fl s n).filter (fun y => y != t) := by
  intro n
  induction n with
  | zero => rfl
  | succ n ih =>
    by_cases c : s.testBit n = true
    · rw [fl_1 c, List.filter_append, ← ih]
      by_cases d : n = t
      · have : ¬ s'.testBit n = true := by rw [h, c, d]; simp
        rw [fl_0 this]
        simp [d]
      · have : s'.testBit n = true := by rw [h, c]; simp [d]
        rw [fl_1 this]
        simp [d]
    · have : ¬ s'.testBit n = true := by
        rw [h]
        simp [c]
      rw [fl_0 c, fl_0 this, ih]

