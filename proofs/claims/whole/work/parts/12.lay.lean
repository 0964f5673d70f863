/-! reading the layout; numbers -/
theorem opK_some {α β : Type} {x : β} {k : β → Option α} : opK (some x) k = k x := rfl
theorem opK_none {α β : Type} {k : β → Option α} : opK none k = none := rfl
theorem guK_true {α : Type} {k : Option α} : guK true k = k := rfl
theorem calK_some {α : Type} {v : Option Value} {M : Mem} {k : Option Value → Mem → Option α} : calK (some (v, M)) k = k v M := rfl
theorem rk_nil {n : Nat} : rk n [] = true := by cases n <;> rfl
theorem rk_int {n : Nat} {x : Int32} {l : List Value} : rk (n + 1) (.int x :: l) = rk n l := rfl
theorem rk_ref {n : Nat} {x : Nat} {l : List Value} : rk (n + 1) (.ref x :: l) = rk n l := rfl
theorem tl_some {x : Value} {st : List Value} : (some x).toList ++ st = x :: st := rfl
theorem tl_none {st : List Value} : (none : Option Value).toList ++ st = st := rfl
theorem nb_int {x : Int32} : narB .int x = true := decide_eq_true rfl
theorem nb_0 : narB .boolean 0 = true := by decide
theorem nb_1 : narB .boolean 1 = true := by decide
theorem nb_if {p : Prop} [Decidable p] : narB .boolean (if p then 1 else 0) = true := by split <;> decide
theorem nb_if' {p : Prop} [Decidable p] : narB .boolean (if p then 0 else 1) = true := by split <;> decide
theorem inb_nI {j n : Nat} (h : j < n) (hn : n < 2 ^ 31) : inb (nI j) n = true := decide_eq_true (nI_in h hn)
theorem mrow_at {M : Mem} {k : Nat} {f : Nat → Int32} : mrow M k f k = f := by unfold mrow; rw [if_pos rfl]
theorem mrow_ne {M : Mem} {k j : Nat} {f : Nat → Int32} (h : j ≠ k) : mrow M k f j = M j := by unfold mrow; rw [if_neg h]
theorem mrow_mrow {M : Mem} {k : Nat} {f g : Nat → Int32} : mrow (mrow M k f) k g = mrow M k g := by
  funext j
  unfold mrow
  split <;> rfl
theorem mrow_self {M : Mem} {k : Nat} : mrow M k (M k) = M := by
  funext j
  unfold mrow
  split
  · next h => rw [h]
  · rfl
theorem mset_mrow {M : Mem} {k i : Nat} {v : Int32} : mset M k i v = mrow M k (upd (M k) i v) := rfl
theorem mrow_comm {M : Mem} {k j : Nat} {f g : Nat → Int32} (h : j ≠ k) : mrow (mrow M k f) j g = mrow (mrow M j g) k f := by
  funext i
  unfold mrow
  by_cases h1 : i = j
  · subst h1; rw [if_pos rfl, if_neg h, if_pos rfl]
  · rw [if_neg h1]
    by_cases h2 : i = k
    · subst h2; rw [if_pos rfl, if_pos rfl]
    · rw [if_neg h2, if_neg h2, if_neg h1]
theorem upd_at {f : Nat → Int32} {k : Nat} {x : Int32} : upd f k x k = x := by unfold upd; rw [if_pos rfl]
theorem upd_ne {f : Nat → Int32} {k j : Nat} {x : Int32} (h : j ≠ k) : upd f k x j = f j := by unfold upd; rw [if_neg h]
theorem upd_upd {f : Nat → Int32} {k : Nat} {x y : Int32} : upd (upd f k x) k y = upd f k y := by
  funext j
  unfold upd
  split <;> rfl
theorem upd_self {f : Nat → Int32} {k : Nat} : upd f k (f k) = f := by
  funext j
  unfold upd
  split
  · next h => rw [h]
  · rfl
def isHen (b : Nat) : Prop := b = 10 ∨ b = 20 ∨ b = 30 ∨ b = 40 ∨ b = 50 ∨ b = 60 ∨ b = 70 ∨ b = 80
def isFarm (b : Nat) : Prop := b = 100 ∨ b = 110
theorem hs_0 {b : Nat} {M : Mem} (hb : isHen b) : slotV 1 0 b M = some (.int (M b 0)) := by rcases hb with rfl | rfl | rfl | rfl | rfl | rfl | rfl | rfl <;> rfl
theorem hi_0 {b : Nat} (hb : isHen b) : isInt 1 0 b = true := by rcases hb with rfl | rfl | rfl | rfl | rfl | rfl | rfl | rfl <;> rfl
theorem hs_1 {b : Nat} {M : Mem} (hb : isHen b) : slotV 1 1 b M = some (.ref (b + 1)) := by rcases hb with rfl | rfl | rfl | rfl | rfl | rfl | rfl | rfl <;> rfl
theorem hs_2 {b : Nat} {M : Mem} (hb : isHen b) : slotV 1 2 b M = some (.ref (b + 2)) := by rcases hb with rfl | rfl | rfl | rfl | rfl | rfl | rfl | rfl <;> rfl
theorem hs_3 {b : Nat} {M : Mem} (hb : isHen b) : slotV 1 3 b M = some (.ref (b + 3)) := by rcases hb with rfl | rfl | rfl | rfl | rfl | rfl | rfl | rfl <;> rfl
theorem hs_4 {b : Nat} {M : Mem} (hb : isHen b) : slotV 1 4 b M = some (.ref (b + 4)) := by rcases hb with rfl | rfl | rfl | rfl | rfl | rfl | rfl | rfl <;> rfl
theorem hs_5 {b : Nat} {M : Mem} (hb : isHen b) : slotV 1 5 b M = some (.ref (b + 5)) := by rcases hb with rfl | rfl | rfl | rfl | rfl | rfl | rfl | rfl <;> rfl
theorem hs_6 {b : Nat} {M : Mem} (hb : isHen b) : slotV 1 6 b M = some (.ref (b + 6)) := by rcases hb with rfl | rfl | rfl | rfl | rfl | rfl | rfl | rfl <;> rfl
theorem hs_7 {b : Nat} {M : Mem} (hb : isHen b) : slotV 1 7 b M = some (.ref (b + 7)) := by rcases hb with rfl | rfl | rfl | rfl | rfl | rfl | rfl | rfl <;> rfl
theorem hs_8 {b : Nat} {M : Mem} (hb : isHen b) : slotV 1 8 b M = some (.ref (b + 8)) := by rcases hb with rfl | rfl | rfl | rfl | rfl | rfl | rfl | rfl <;> rfl
theorem hs_9 {b : Nat} {M : Mem} (hb : isHen b) : slotV 1 9 b M = some (.int (M b 9)) := by rcases hb with rfl | rfl | rfl | rfl | rfl | rfl | rfl | rfl <;> rfl
theorem hi_9 {b : Nat} (hb : isHen b) : isInt 1 9 b = true := by rcases hb with rfl | rfl | rfl | rfl | rfl | rfl | rfl | rfl <;> rfl
theorem hs_10 {b : Nat} {M : Mem} (hb : isHen b) : slotV 1 10 b M = some (.int (M b 10)) := by rcases hb with rfl | rfl | rfl | rfl | rfl | rfl | rfl | rfl <;> rfl
theorem hi_10 {b : Nat} (hb : isHen b) : isInt 1 10 b = true := by rcases hb with rfl | rfl | rfl | rfl | rfl | rfl | rfl | rfl <;> rfl
theorem hs_11 {b : Nat} {M : Mem} (hb : isHen b) : slotV 1 11 b M = some (.int (M b 11)) := by rcases hb with rfl | rfl | rfl | rfl | rfl | rfl | rfl | rfl <;> rfl
theorem hi_11 {b : Nat} (hb : isHen b) : isInt 1 11 b = true := by rcases hb with rfl | rfl | rfl | rfl | rfl | rfl | rfl | rfl <;> rfl
theorem hs_12 {b : Nat} {M : Mem} (hb : isHen b) : slotV 1 12 b M = some (.int (M b 12)) := by rcases hb with rfl | rfl | rfl | rfl | rfl | rfl | rfl | rfl <;> rfl
theorem hi_12 {b : Nat} (hb : isHen b) : isInt 1 12 b = true := by rcases hb with rfl | rfl | rfl | rfl | rfl | rfl | rfl | rfl <;> rfl
theorem hs_13 {b : Nat} {M : Mem} (hb : isHen b) : slotV 1 13 b M = some (.int (M b 13)) := by rcases hb with rfl | rfl | rfl | rfl | rfl | rfl | rfl | rfl <;> rfl
theorem hi_13 {b : Nat} (hb : isHen b) : isInt 1 13 b = true := by rcases hb with rfl | rfl | rfl | rfl | rfl | rfl | rfl | rfl <;> rfl
theorem hs_14 {b : Nat} {M : Mem} (hb : isHen b) : slotV 1 14 b M = some (.int (M b 14)) := by rcases hb with rfl | rfl | rfl | rfl | rfl | rfl | rfl | rfl <;> rfl
theorem hi_14 {b : Nat} (hb : isHen b) : isInt 1 14 b = true := by rcases hb with rfl | rfl | rfl | rfl | rfl | rfl | rfl | rfl <;> rfl
theorem hen_c {b : Nat} (hb : isHen b) : isCl 1 b = true := by rcases hb with rfl | rfl | rfl | rfl | rfl | rfl | rfl | rfl <;> rfl
theorem ha_1 {b : Nat} {M : Mem} {sc : Scr} (hb : isHen b) : arrV9 sc (b + 1) M = some (10, M (b + 1)) := by rcases hb with rfl | rfl | rfl | rfl | rfl | rfl | rfl | rfl <;> rfl
theorem hn_1 {b : Nat} (hb : isHen b) : arrN (b + 1) = some 10 := by rcases hb with rfl | rfl | rfl | rfl | rfl | rfl | rfl | rfl <;> rfl
theorem ha_2 {b : Nat} {M : Mem} {sc : Scr} (hb : isHen b) : arrV9 sc (b + 2) M = some (10, M (b + 2)) := by rcases hb with rfl | rfl | rfl | rfl | rfl | rfl | rfl | rfl <;> rfl
theorem hn_2 {b : Nat} (hb : isHen b) : arrN (b + 2) = some 10 := by rcases hb with rfl | rfl | rfl | rfl | rfl | rfl | rfl | rfl <;> rfl
theorem ha_3 {b : Nat} {M : Mem} {sc : Scr} (hb : isHen b) : arrV9 sc (b + 3) M = some (10, M (b + 3)) := by rcases hb with rfl | rfl | rfl | rfl | rfl | rfl | rfl | rfl <;> rfl
theorem hn_3 {b : Nat} (hb : isHen b) : arrN (b + 3) = some 10 := by rcases hb with rfl | rfl | rfl | rfl | rfl | rfl | rfl | rfl <;> rfl
theorem ha_4 {b : Nat} {M : Mem} {sc : Scr} (hb : isHen b) : arrV9 sc (b + 4) M = some (10, M (b + 4)) := by rcases hb with rfl | rfl | rfl | rfl | rfl | rfl | rfl | rfl <;> rfl
theorem hn_4 {b : Nat} (hb : isHen b) : arrN (b + 4) = some 10 := by rcases hb with rfl | rfl | rfl | rfl | rfl | rfl | rfl | rfl <;> rfl
theorem ha_5 {b : Nat} {M : Mem} {sc : Scr} (hb : isHen b) : arrV9 sc (b + 5) M = some (10, M (b + 5)) := by rcases hb with rfl | rfl | rfl | rfl | rfl | rfl | rfl | rfl <;> rfl
theorem hn_5 {b : Nat} (hb : isHen b) : arrN (b + 5) = some 10 := by rcases hb with rfl | rfl | rfl | rfl | rfl | rfl | rfl | rfl <;> rfl
theorem ha_6 {b : Nat} {M : Mem} {sc : Scr} (hb : isHen b) : arrV9 sc (b + 6) M = some (10, M (b + 6)) := by rcases hb with rfl | rfl | rfl | rfl | rfl | rfl | rfl | rfl <;> rfl
theorem hn_6 {b : Nat} (hb : isHen b) : arrN (b + 6) = some 10 := by rcases hb with rfl | rfl | rfl | rfl | rfl | rfl | rfl | rfl <;> rfl
theorem ha_7 {b : Nat} {M : Mem} {sc : Scr} (hb : isHen b) : arrV9 sc (b + 7) M = some (10, M (b + 7)) := by rcases hb with rfl | rfl | rfl | rfl | rfl | rfl | rfl | rfl <;> rfl
theorem hn_7 {b : Nat} (hb : isHen b) : arrN (b + 7) = some 10 := by rcases hb with rfl | rfl | rfl | rfl | rfl | rfl | rfl | rfl <;> rfl
theorem ha_8 {b : Nat} {M : Mem} {sc : Scr} (hb : isHen b) : arrV9 sc (b + 8) M = some (8, M (b + 8)) := by rcases hb with rfl | rfl | rfl | rfl | rfl | rfl | rfl | rfl <;> rfl
theorem hn_8 {b : Nat} (hb : isHen b) : arrN (b + 8) = some 8 := by rcases hb with rfl | rfl | rfl | rfl | rfl | rfl | rfl | rfl <;> rfl
theorem fs_0 {f : Nat} {M : Mem} (hf : isFarm f) : slotV 0 0 f M = some (.ref (f - 90)) := by rcases hf with rfl | rfl <;> rfl
theorem fs_1 {f : Nat} {M : Mem} (hf : isFarm f) : slotV 0 1 f M = some (.int (M f 1)) := by rcases hf with rfl | rfl <;> rfl
theorem fi_1 {f : Nat} (hf : isFarm f) : isInt 0 1 f = true := by rcases hf with rfl | rfl <;> rfl
theorem fs_2 {f : Nat} {M : Mem} (hf : isFarm f) : slotV 0 2 f M = some (.int (M f 2)) := by rcases hf with rfl | rfl <;> rfl
theorem fi_2 {f : Nat} (hf : isFarm f) : isInt 0 2 f = true := by rcases hf with rfl | rfl <;> rfl
theorem fs_3 {f : Nat} {M : Mem} (hf : isFarm f) : slotV 0 3 f M = some (.int (M f 3)) := by rcases hf with rfl | rfl <;> rfl
theorem fi_3 {f : Nat} (hf : isFarm f) : isInt 0 3 f = true := by rcases hf with rfl | rfl <;> rfl
theorem fs_4 {f : Nat} {M : Mem} (hf : isFarm f) : slotV 0 4 f M = some (.int (M f 4)) := by rcases hf with rfl | rfl <;> rfl
theorem fi_4 {f : Nat} (hf : isFarm f) : isInt 0 4 f = true := by rcases hf with rfl | rfl <;> rfl
theorem fs_5 {f : Nat} {M : Mem} (hf : isFarm f) : slotV 0 5 f M = some (.ref (f + 1)) := by rcases hf with rfl | rfl <;> rfl
theorem fs_6 {f : Nat} {M : Mem} (hf : isFarm f) : slotV 0 6 f M = some (.ref (f + 2)) := by rcases hf with rfl | rfl <;> rfl
theorem fs_7 {f : Nat} {M : Mem} (hf : isFarm f) : slotV 0 7 f M = some (.ref (f + 3)) := by rcases hf with rfl | rfl <;> rfl
theorem fs_8 {f : Nat} {M : Mem} (hf : isFarm f) : slotV 0 8 f M = some (.ref (f + 4)) := by rcases hf with rfl | rfl <;> rfl
theorem farm_c {f : Nat} (hf : isFarm f) : isCl 0 f = true := by rcases hf with rfl | rfl <;> rfl
theorem fa_1 {f : Nat} {M : Mem} {sc : Scr} (hf : isFarm f) : arrV9 sc (f + 1) M = some (12, M (f + 1)) := by rcases hf with rfl | rfl <;> rfl
theorem fn_1 {f : Nat} (hf : isFarm f) : arrN (f + 1) = some 12 := by rcases hf with rfl | rfl <;> rfl
theorem fa_2 {f : Nat} {M : Mem} {sc : Scr} (hf : isFarm f) : arrV9 sc (f + 2) M = some (12, M (f + 2)) := by rcases hf with rfl | rfl <;> rfl
theorem fn_2 {f : Nat} (hf : isFarm f) : arrN (f + 2) = some 12 := by rcases hf with rfl | rfl <;> rfl
theorem fa_3 {f : Nat} {M : Mem} {sc : Scr} (hf : isFarm f) : arrV9 sc (f + 3) M = some (12, M (f + 3)) := by rcases hf with rfl | rfl <;> rfl
theorem fn_3 {f : Nat} (hf : isFarm f) : arrN (f + 3) = some 12 := by rcases hf with rfl | rfl <;> rfl
theorem fa_4 {f : Nat} {M : Mem} {sc : Scr} (hf : isFarm f) : arrV9 sc (f + 4) M = some (10, M (f + 4)) := by rcases hf with rfl | rfl <;> rfl
theorem fn_4 {f : Nat} (hf : isFarm f) : arrN (f + 4) = some 10 := by rcases hf with rfl | rfl <;> rfl
theorem o0_0 {M : Mem} : slotV 4 0 0 M = some (.ref 100) := rfl
theorem o0_1 {M : Mem} : slotV 4 1 0 M = some (.ref 110) := rfl
theorem o0_2 {M : Mem} : slotV 4 2 0 M = some (.int (M 0 2)) := rfl
theorem p0_2 : isInt 4 2 0 = true := rfl
theorem o0_3 {M : Mem} : slotV 4 3 0 M = some (.ref 7) := rfl
theorem o0_4 {M : Mem} : slotV 4 4 0 M = some (.ref 5) := rfl
theorem o0_5 {M : Mem} : slotV 4 5 0 M = some (.ref 1) := rfl
theorem o0_6 {M : Mem} : slotV 4 6 0 M = some (.ref 30) := rfl
theorem o0_7 {M : Mem} : slotV 4 7 0 M = some (.ref 6) := rfl
theorem o0_8 {M : Mem} : slotV 4 8 0 M = some (.ref 2) := rfl
theorem o0_9 {M : Mem} : slotV 4 9 0 M = some (.ref 3) := rfl
theorem o0_10 {M : Mem} : slotV 4 10 0 M = some (.ref 4) := rfl
theorem o0_11 {M : Mem} : slotV 4 11 0 M = some (.int (M 0 11)) := rfl
theorem p0_11 : isInt 4 11 0 = true := rfl
theorem q0 : isCl 4 0 = true := rfl
theorem o7_0 {M : Mem} : slotV 3 0 7 M = some (.ref 91) := rfl
theorem o7_1 {M : Mem} : slotV 3 1 7 M = some (.int (M 7 1)) := rfl
theorem p7_1 : isInt 3 1 7 = true := rfl
theorem o7_2 {M : Mem} : slotV 3 2 7 M = some (.ref 92) := rfl
theorem o7_3 {M : Mem} : slotV 3 3 7 M = some (.ref 93) := rfl
theorem o7_4 {M : Mem} : slotV 3 4 7 M = some (.ref 94) := rfl
theorem o7_5 {M : Mem} : slotV 3 5 7 M = some (.int (M 7 5)) := rfl
theorem p7_5 : isInt 3 5 7 = true := rfl
theorem o7_6 {M : Mem} : slotV 3 6 7 M = some (.int (M 7 6)) := rfl
theorem p7_6 : isInt 3 6 7 = true := rfl
theorem q7 : isCl 3 7 = true := rfl
theorem o100_0 {M : Mem} : slotV 0 0 100 M = some (.ref 10) := rfl
theorem o100_1 {M : Mem} : slotV 0 1 100 M = some (.int (M 100 1)) := rfl
theorem p100_1 : isInt 0 1 100 = true := rfl
theorem o100_2 {M : Mem} : slotV 0 2 100 M = some (.int (M 100 2)) := rfl
theorem p100_2 : isInt 0 2 100 = true := rfl
theorem o100_3 {M : Mem} : slotV 0 3 100 M = some (.int (M 100 3)) := rfl
theorem p100_3 : isInt 0 3 100 = true := rfl
theorem o100_4 {M : Mem} : slotV 0 4 100 M = some (.int (M 100 4)) := rfl
theorem p100_4 : isInt 0 4 100 = true := rfl
theorem o100_5 {M : Mem} : slotV 0 5 100 M = some (.ref 101) := rfl
theorem o100_6 {M : Mem} : slotV 0 6 100 M = some (.ref 102) := rfl
theorem o100_7 {M : Mem} : slotV 0 7 100 M = some (.ref 103) := rfl
theorem o100_8 {M : Mem} : slotV 0 8 100 M = some (.ref 104) := rfl
theorem q100 : isCl 0 100 = true := rfl
theorem o110_0 {M : Mem} : slotV 0 0 110 M = some (.ref 20) := rfl
theorem o110_1 {M : Mem} : slotV 0 1 110 M = some (.int (M 110 1)) := rfl
theorem p110_1 : isInt 0 1 110 = true := rfl
theorem o110_2 {M : Mem} : slotV 0 2 110 M = some (.int (M 110 2)) := rfl
theorem p110_2 : isInt 0 2 110 = true := rfl
theorem o110_3 {M : Mem} : slotV 0 3 110 M = some (.int (M 110 3)) := rfl
theorem p110_3 : isInt 0 3 110 = true := rfl
theorem o110_4 {M : Mem} : slotV 0 4 110 M = some (.int (M 110 4)) := rfl
theorem p110_4 : isInt 0 4 110 = true := rfl
theorem o110_5 {M : Mem} : slotV 0 5 110 M = some (.ref 111) := rfl
theorem o110_6 {M : Mem} : slotV 0 6 110 M = some (.ref 112) := rfl
theorem o110_7 {M : Mem} : slotV 0 7 110 M = some (.ref 113) := rfl
theorem o110_8 {M : Mem} : slotV 0 8 110 M = some (.ref 114) := rfl
theorem q110 : isCl 0 110 = true := rfl
theorem o130_0 {M : Mem} : slotV 5 0 130 M = some (.ref 131) := rfl
theorem o130_1 {M : Mem} : slotV 5 1 130 M = some (.ref 132) := rfl
theorem o130_2 {M : Mem} : slotV 5 2 130 M = some (.ref 133) := rfl
theorem o130_3 {M : Mem} : slotV 5 3 130 M = some (.int (M 130 3)) := rfl
theorem p130_3 : isInt 5 3 130 = true := rfl
theorem o130_4 {M : Mem} : slotV 5 4 130 M = some (.ref 134) := rfl
theorem o130_5 {M : Mem} : slotV 5 5 130 M = some (.int (M 130 5)) := rfl
theorem p130_5 : isInt 5 5 130 = true := rfl
theorem o130_6 {M : Mem} : slotV 5 6 130 M = some (.int (M 130 6)) := rfl
theorem p130_6 : isInt 5 6 130 = true := rfl
theorem o130_7 {M : Mem} : slotV 5 7 130 M = some (.int (M 130 7)) := rfl
theorem p130_7 : isInt 5 7 130 = true := rfl
theorem o130_8 {M : Mem} : slotV 5 8 130 M = some (.int (M 130 8)) := rfl
theorem p130_8 : isInt 5 8 130 = true := rfl
theorem o130_9 {M : Mem} : slotV 5 9 130 M = some (.ref 135) := rfl
theorem o130_10 {M : Mem} : slotV 5 10 130 M = some (.int (M 130 10)) := rfl
theorem p130_10 : isInt 5 10 130 = true := rfl
theorem o130_11 {M : Mem} : slotV 5 11 130 M = some (.ref 136) := rfl
theorem o130_12 {M : Mem} : slotV 5 12 130 M = some (.int (M 130 12)) := rfl
theorem p130_12 : isInt 5 12 130 = true := rfl
theorem o130_13 {M : Mem} : slotV 5 13 130 M = some (.ref 137) := rfl
theorem o130_14 {M : Mem} : slotV 5 14 130 M = some (.int (M 130 14)) := rfl
theorem p130_14 : isInt 5 14 130 = true := rfl
theorem o130_15 {M : Mem} : slotV 5 15 130 M = some (.int (M 130 15)) := rfl
theorem p130_15 : isInt 5 15 130 = true := rfl
theorem o130_16 {M : Mem} : slotV 5 16 130 M = some (.ref 138) := rfl
theorem o130_17 {M : Mem} : slotV 5 17 130 M = some (.int (M 130 17)) := rfl
theorem p130_17 : isInt 5 17 130 = true := rfl
theorem o130_18 {M : Mem} : slotV 5 18 130 M = some (.int (M 130 18)) := rfl
theorem p130_18 : isInt 5 18 130 = true := rfl
theorem o130_19 {M : Mem} : slotV 5 19 130 M = some (.int (M 130 19)) := rfl
theorem p130_19 : isInt 5 19 130 = true := rfl
theorem o130_20 {M : Mem} : slotV 5 20 130 M = some (.int (M 130 20)) := rfl
theorem p130_20 : isInt 5 20 130 = true := rfl
theorem o130_21 {M : Mem} : slotV 5 21 130 M = some (.int (M 130 21)) := rfl
theorem p130_21 : isInt 5 21 130 = true := rfl
theorem o130_22 {M : Mem} : slotV 5 22 130 M = some (.int (M 130 22)) := rfl
theorem p130_22 : isInt 5 22 130 = true := rfl
theorem o130_23 {M : Mem} : slotV 5 23 130 M = some (.ref 139) := rfl
theorem o130_24 {M : Mem} : slotV 5 24 130 M = some (.ref 140) := rfl
theorem o130_25 {M : Mem} : slotV 5 25 130 M = some (.int (M 130 25)) := rfl
theorem p130_25 : isInt 5 25 130 = true := rfl
theorem o130_26 {M : Mem} : slotV 5 26 130 M = some (.int (M 130 26)) := rfl
theorem p130_26 : isInt 5 26 130 = true := rfl
theorem o130_27 {M : Mem} : slotV 5 27 130 M = some (.ref 141) := rfl
theorem o130_28 {M : Mem} : slotV 5 28 130 M = some (.ref 142) := rfl
theorem o130_29 {M : Mem} : slotV 5 29 130 M = some (.ref 143) := rfl
theorem o130_30 {M : Mem} : slotV 5 30 130 M = some (.ref 144) := rfl
theorem q130 : isCl 5 130 = true := rfl
theorem o120_0 {M : Mem} : slotV 2 0 120 M = some (.int (M 120 0)) := rfl
theorem p120_0 : isInt 2 0 120 = true := rfl
theorem o120_1 {M : Mem} : slotV 2 1 120 M = some (.int (M 120 1)) := rfl
theorem p120_1 : isInt 2 1 120 = true := rfl
theorem o120_2 {M : Mem} : slotV 2 2 120 M = some (.ref 121) := rfl
theorem q120 : isCl 2 120 = true := rfl
theorem o122_0 {M : Mem} : slotV 2 0 122 M = some (.int (M 122 0)) := rfl
theorem p122_0 : isInt 2 0 122 = true := rfl
theorem o122_1 {M : Mem} : slotV 2 1 122 M = some (.int (M 122 1)) := rfl
theorem p122_1 : isInt 2 1 122 = true := rfl
theorem o122_2 {M : Mem} : slotV 2 2 122 M = some (.ref 123) := rfl
theorem q122 : isCl 2 122 = true := rfl
theorem o124_0 {M : Mem} : slotV 2 0 124 M = some (.int (M 124 0)) := rfl
theorem p124_0 : isInt 2 0 124 = true := rfl
theorem o124_1 {M : Mem} : slotV 2 1 124 M = some (.int (M 124 1)) := rfl
theorem p124_1 : isInt 2 1 124 = true := rfl
theorem o124_2 {M : Mem} : slotV 2 2 124 M = some (.ref 125) := rfl
theorem q124 : isCl 2 124 = true := rfl
theorem o126_0 {M : Mem} : slotV 2 0 126 M = some (.int (M 126 0)) := rfl
theorem p126_0 : isInt 2 0 126 = true := rfl
theorem o126_1 {M : Mem} : slotV 2 1 126 M = some (.int (M 126 1)) := rfl
theorem p126_1 : isInt 2 1 126 = true := rfl
theorem o126_2 {M : Mem} : slotV 2 2 126 M = some (.ref 127) := rfl
theorem q126 : isCl 2 126 = true := rfl
theorem a1 {M : Mem} {sc : Scr} : arrV9 sc 1 M = some (7, M 1) := rfl
theorem b1 : arrN 1 = some 7 := rfl
theorem a2 {M : Mem} {sc : Scr} : arrV9 sc 2 M = some (10, M 2) := rfl
theorem b2 : arrN 2 = some 10 := rfl
theorem a3 {M : Mem} {sc : Scr} : arrV9 sc 3 M = some (5, M 3) := rfl
theorem b3 : arrN 3 = some 5 := rfl
theorem a4 {M : Mem} {sc : Scr} : arrV9 sc 4 M = some (10, M 4) := rfl
theorem b4 : arrN 4 = some 10 := rfl
theorem r5 : arrR 5 = some [120, 122, 124, 126] := rfl
theorem r6 : arrR 6 = some [40, 50, 60, 70, 80] := rfl
theorem a11 {M : Mem} {sc : Scr} : arrV9 sc 11 M = some (10, M 11) := rfl
theorem b11 : arrN 11 = some 10 := rfl
theorem a12 {M : Mem} {sc : Scr} : arrV9 sc 12 M = some (10, M 12) := rfl
theorem b12 : arrN 12 = some 10 := rfl
theorem a13 {M : Mem} {sc : Scr} : arrV9 sc 13 M = some (10, M 13) := rfl
theorem b13 : arrN 13 = some 10 := rfl
theorem a14 {M : Mem} {sc : Scr} : arrV9 sc 14 M = some (10, M 14) := rfl
theorem b14 : arrN 14 = some 10 := rfl
theorem a15 {M : Mem} {sc : Scr} : arrV9 sc 15 M = some (10, M 15) := rfl
theorem b15 : arrN 15 = some 10 := rfl
theorem a16 {M : Mem} {sc : Scr} : arrV9 sc 16 M = some (10, M 16) := rfl
theorem b16 : arrN 16 = some 10 := rfl
theorem a17 {M : Mem} {sc : Scr} : arrV9 sc 17 M = some (10, M 17) := rfl
theorem b17 : arrN 17 = some 10 := rfl
theorem a18 {M : Mem} {sc : Scr} : arrV9 sc 18 M = some (8, M 18) := rfl
theorem b18 : arrN 18 = some 8 := rfl
theorem a21 {M : Mem} {sc : Scr} : arrV9 sc 21 M = some (10, M 21) := rfl
theorem b21 : arrN 21 = some 10 := rfl
theorem a22 {M : Mem} {sc : Scr} : arrV9 sc 22 M = some (10, M 22) := rfl
theorem b22 : arrN 22 = some 10 := rfl
theorem a23 {M : Mem} {sc : Scr} : arrV9 sc 23 M = some (10, M 23) := rfl
theorem b23 : arrN 23 = some 10 := rfl
theorem a24 {M : Mem} {sc : Scr} : arrV9 sc 24 M = some (10, M 24) := rfl
theorem b24 : arrN 24 = some 10 := rfl
theorem a25 {M : Mem} {sc : Scr} : arrV9 sc 25 M = some (10, M 25) := rfl
theorem b25 : arrN 25 = some 10 := rfl
theorem a26 {M : Mem} {sc : Scr} : arrV9 sc 26 M = some (10, M 26) := rfl
theorem b26 : arrN 26 = some 10 := rfl
theorem a27 {M : Mem} {sc : Scr} : arrV9 sc 27 M = some (10, M 27) := rfl
theorem b27 : arrN 27 = some 10 := rfl
theorem a28 {M : Mem} {sc : Scr} : arrV9 sc 28 M = some (8, M 28) := rfl
theorem b28 : arrN 28 = some 8 := rfl
theorem a31 {M : Mem} {sc : Scr} : arrV9 sc 31 M = some (10, M 31) := rfl
theorem b31 : arrN 31 = some 10 := rfl
theorem a32 {M : Mem} {sc : Scr} : arrV9 sc 32 M = some (10, M 32) := rfl
theorem b32 : arrN 32 = some 10 := rfl
theorem a33 {M : Mem} {sc : Scr} : arrV9 sc 33 M = some (10, M 33) := rfl
theorem b33 : arrN 33 = some 10 := rfl
theorem a34 {M : Mem} {sc : Scr} : arrV9 sc 34 M = some (10, M 34) := rfl
theorem b34 : arrN 34 = some 10 := rfl
theorem a35 {M : Mem} {sc : Scr} : arrV9 sc 35 M = some (10, M 35) := rfl
theorem b35 : arrN 35 = some 10 := rfl
theorem a36 {M : Mem} {sc : Scr} : arrV9 sc 36 M = some (10, M 36) := rfl
theorem b36 : arrN 36 = some 10 := rfl
theorem a37 {M : Mem} {sc : Scr} : arrV9 sc 37 M = some (10, M 37) := rfl
theorem b37 : arrN 37 = some 10 := rfl
theorem a38 {M : Mem} {sc : Scr} : arrV9 sc 38 M = some (8, M 38) := rfl
theorem b38 : arrN 38 = some 8 := rfl
theorem a41 {M : Mem} {sc : Scr} : arrV9 sc 41 M = some (10, M 41) := rfl
theorem b41 : arrN 41 = some 10 := rfl
theorem a42 {M : Mem} {sc : Scr} : arrV9 sc 42 M = some (10, M 42) := rfl
theorem b42 : arrN 42 = some 10 := rfl
theorem a43 {M : Mem} {sc : Scr} : arrV9 sc 43 M = some (10, M 43) := rfl
theorem b43 : arrN 43 = some 10 := rfl
theorem a44 {M : Mem} {sc : Scr} : arrV9 sc 44 M = some (10, M 44) := rfl
theorem b44 : arrN 44 = some 10 := rfl
theorem a45 {M : Mem} {sc : Scr} : arrV9 sc 45 M = some (10, M 45) := rfl
theorem b45 : arrN 45 = some 10 := rfl
theorem a46 {M : Mem} {sc : Scr} : arrV9 sc 46 M = some (10, M 46) := rfl
theorem b46 : arrN 46 = some 10 := rfl
theorem a47 {M : Mem} {sc : Scr} : arrV9 sc 47 M = some (10, M 47) := rfl
theorem b47 : arrN 47 = some 10 := rfl
theorem a48 {M : Mem} {sc : Scr} : arrV9 sc 48 M = some (8, M 48) := rfl
theorem b48 : arrN 48 = some 8 := rfl
theorem a51 {M : Mem} {sc : Scr} : arrV9 sc 51 M = some (10, M 51) := rfl
theorem b51 : arrN 51 = some 10 := rfl
theorem a52 {M : Mem} {sc : Scr} : arrV9 sc 52 M = some (10, M 52) := rfl
theorem b52 : arrN 52 = some 10 := rfl
theorem a53 {M : Mem} {sc : Scr} : arrV9 sc 53 M = some (10, M 53) := rfl
theorem b53 : arrN 53 = some 10 := rfl
theorem a54 {M : Mem} {sc : Scr} : arrV9 sc 54 M = some (10, M 54) := rfl
theorem b54 : arrN 54 = some 10 := rfl
theorem a55 {M : Mem} {sc : Scr} : arrV9 sc 55 M = some (10, M 55) := rfl
theorem b55 : arrN 55 = some 10 := rfl
theorem a56 {M : Mem} {sc : Scr} : arrV9 sc 56 M = some (10, M 56) := rfl
theorem b56 : arrN 56 = some 10 := rfl
theorem a57 {M : Mem} {sc : Scr} : arrV9 sc 57 M = some (10, M 57) := rfl
theorem b57 : arrN 57 = some 10 := rfl
theorem a58 {M : Mem} {sc : Scr} : arrV9 sc 58 M = some (8, M 58) := rfl
theorem b58 : arrN 58 = some 8 := rfl
theorem a61 {M : Mem} {sc : Scr} : arrV9 sc 61 M = some (10, M 61) := rfl
theorem b61 : arrN 61 = some 10 := rfl
theorem a62 {M : Mem} {sc : Scr} : arrV9 sc 62 M = some (10, M 62) := rfl
theorem b62 : arrN 62 = some 10 := rfl
theorem a63 {M : Mem} {sc : Scr} : arrV9 sc 63 M = some (10, M 63) := rfl
theorem b63 : arrN 63 = some 10 := rfl
theorem a64 {M : Mem} {sc : Scr} : arrV9 sc 64 M = some (10, M 64) := rfl
theorem b64 : arrN 64 = some 10 := rfl
theorem a65 {M : Mem} {sc : Scr} : arrV9 sc 65 M = some (10, M 65) := rfl
theorem b65 : arrN 65 = some 10 := rfl
theorem a66 {M : Mem} {sc : Scr} : arrV9 sc 66 M = some (10, M 66) := rfl
theorem b66 : arrN 66 = some 10 := rfl
theorem a67 {M : Mem} {sc : Scr} : arrV9 sc 67 M = some (10, M 67) := rfl
theorem b67 : arrN 67 = some 10 := rfl
theorem a68 {M : Mem} {sc : Scr} : arrV9 sc 68 M = some (8, M 68) := rfl
theorem b68 : arrN 68 = some 8 := rfl
theorem a71 {M : Mem} {sc : Scr} : arrV9 sc 71 M = some (10, M 71) := rfl
theorem b71 : arrN 71 = some 10 := rfl
theorem a72 {M : Mem} {sc : Scr} : arrV9 sc 72 M = some (10, M 72) := rfl
theorem b72 : arrN 72 = some 10 := rfl
theorem a73 {M : Mem} {sc : Scr} : arrV9 sc 73 M = some (10, M 73) := rfl
theorem b73 : arrN 73 = some 10 := rfl
theorem a74 {M : Mem} {sc : Scr} : arrV9 sc 74 M = some (10, M 74) := rfl
theorem b74 : arrN 74 = some 10 := rfl
theorem a75 {M : Mem} {sc : Scr} : arrV9 sc 75 M = some (10, M 75) := rfl
theorem b75 : arrN 75 = some 10 := rfl
theorem a76 {M : Mem} {sc : Scr} : arrV9 sc 76 M = some (10, M 76) := rfl
theorem b76 : arrN 76 = some 10 := rfl
theorem a77 {M : Mem} {sc : Scr} : arrV9 sc 77 M = some (10, M 77) := rfl
theorem b77 : arrN 77 = some 10 := rfl
theorem a78 {M : Mem} {sc : Scr} : arrV9 sc 78 M = some (8, M 78) := rfl
theorem b78 : arrN 78 = some 8 := rfl
theorem a81 {M : Mem} {sc : Scr} : arrV9 sc 81 M = some (10, M 81) := rfl
theorem b81 : arrN 81 = some 10 := rfl
theorem a82 {M : Mem} {sc : Scr} : arrV9 sc 82 M = some (10, M 82) := rfl
theorem b82 : arrN 82 = some 10 := rfl
theorem a83 {M : Mem} {sc : Scr} : arrV9 sc 83 M = some (10, M 83) := rfl
theorem b83 : arrN 83 = some 10 := rfl
theorem a84 {M : Mem} {sc : Scr} : arrV9 sc 84 M = some (10, M 84) := rfl
theorem b84 : arrN 84 = some 10 := rfl
theorem a85 {M : Mem} {sc : Scr} : arrV9 sc 85 M = some (10, M 85) := rfl
theorem b85 : arrN 85 = some 10 := rfl
theorem a86 {M : Mem} {sc : Scr} : arrV9 sc 86 M = some (10, M 86) := rfl
theorem b86 : arrN 86 = some 10 := rfl
theorem a87 {M : Mem} {sc : Scr} : arrV9 sc 87 M = some (10, M 87) := rfl
theorem b87 : arrN 87 = some 10 := rfl
theorem a88 {M : Mem} {sc : Scr} : arrV9 sc 88 M = some (8, M 88) := rfl
theorem b88 : arrN 88 = some 8 := rfl
theorem a91 {M : Mem} {sc : Scr} : arrV9 sc 91 M = some (120, M 91) := rfl
theorem b91 : arrN 91 = some 120 := rfl
theorem a92 {M : Mem} {sc : Scr} : arrV9 sc 92 M = some (121, M 92) := rfl
theorem b92 : arrN 92 = some 121 := rfl
theorem a93 {M : Mem} {sc : Scr} : arrV9 sc 93 M = some (121, M 93) := rfl
theorem b93 : arrN 93 = some 121 := rfl
theorem a94 {M : Mem} {sc : Scr} : arrV9 sc 94 M = some (121, M 94) := rfl
theorem b94 : arrN 94 = some 121 := rfl
theorem a101 {M : Mem} {sc : Scr} : arrV9 sc 101 M = some (12, M 101) := rfl
theorem b101 : arrN 101 = some 12 := rfl
theorem a102 {M : Mem} {sc : Scr} : arrV9 sc 102 M = some (12, M 102) := rfl
theorem b102 : arrN 102 = some 12 := rfl
theorem a103 {M : Mem} {sc : Scr} : arrV9 sc 103 M = some (12, M 103) := rfl
theorem b103 : arrN 103 = some 12 := rfl
theorem a104 {M : Mem} {sc : Scr} : arrV9 sc 104 M = some (10, M 104) := rfl
theorem b104 : arrN 104 = some 10 := rfl
theorem a111 {M : Mem} {sc : Scr} : arrV9 sc 111 M = some (12, M 111) := rfl
theorem b111 : arrN 111 = some 12 := rfl
theorem a112 {M : Mem} {sc : Scr} : arrV9 sc 112 M = some (12, M 112) := rfl
theorem b112 : arrN 112 = some 12 := rfl
theorem a113 {M : Mem} {sc : Scr} : arrV9 sc 113 M = some (12, M 113) := rfl
theorem b113 : arrN 113 = some 12 := rfl
theorem a114 {M : Mem} {sc : Scr} : arrV9 sc 114 M = some (10, M 114) := rfl
theorem b114 : arrN 114 = some 10 := rfl
theorem a121 {M : Mem} {sc : Scr} : arrV9 sc 121 M = some (40, M 121) := rfl
theorem b121 : arrN 121 = some 40 := rfl
theorem a123 {M : Mem} {sc : Scr} : arrV9 sc 123 M = some (40, M 123) := rfl
theorem b123 : arrN 123 = some 40 := rfl
theorem a125 {M : Mem} {sc : Scr} : arrV9 sc 125 M = some (40, M 125) := rfl
theorem b125 : arrN 125 = some 40 := rfl
theorem a127 {M : Mem} {sc : Scr} : arrV9 sc 127 M = some (40, M 127) := rfl
theorem b127 : arrN 127 = some 40 := rfl
theorem a131 {M : Mem} {sc : Scr} : arrV9 sc 131 M = some (132, M 131) := rfl
theorem b131 : arrN 131 = some 132 := rfl
theorem a132 {M : Mem} {sc : Scr} : arrV9 sc 132 M = some (132, M 132) := rfl
theorem b132 : arrN 132 = some 132 := rfl
theorem a133 {M : Mem} {sc : Scr} : arrV9 sc 133 M = some (132, M 133) := rfl
theorem b133 : arrN 133 = some 132 := rfl
theorem a134 {M : Mem} {sc : Scr} : arrV9 sc 134 M = some (8, M 134) := rfl
theorem b134 : arrN 134 = some 8 := rfl
theorem a135 {M : Mem} {sc : Scr} : arrV9 sc 135 M = some (10, M 135) := rfl
theorem b135 : arrN 135 = some 10 := rfl
theorem a136 {M : Mem} {sc : Scr} : arrV9 sc 136 M = some (5, M 136) := rfl
theorem b136 : arrN 136 = some 5 := rfl
theorem a137 {M : Mem} {sc : Scr} : arrV9 sc 137 M = some (660, M 137) := rfl
theorem b137 : arrN 137 = some 660 := rfl
theorem a138 {M : Mem} {sc : Scr} : arrV9 sc 138 M = some (120, M 138) := rfl
theorem b138 : arrN 138 = some 120 := rfl
theorem r139 : arrR 139 = some [160, 161, 162, 163, 164, 165, 166] := rfl
theorem a140 {M : Mem} {sc : Scr} : arrV9 sc 140 M = some (480, M 140) := rfl
theorem b140 : arrN 140 = some 480 := rfl
theorem a141 {M : Mem} {sc : Scr} : arrV9 sc 141 M = some (4, M 141) := rfl
theorem b141 : arrN 141 = some 4 := rfl
theorem a142 {M : Mem} {sc : Scr} : arrV9 sc 142 M = some (4, M 142) := rfl
theorem b142 : arrN 142 = some 4 := rfl
theorem a143 {M : Mem} {sc : Scr} : arrV9 sc 143 M = some (160, M 143) := rfl
theorem b143 : arrN 143 = some 160 := rfl
theorem a144 {M : Mem} {sc : Scr} : arrV9 sc 144 M = some (40, M 144) := rfl
theorem b144 : arrN 144 = some 40 := rfl
theorem a150 {M : Mem} {sc : Scr} : arrV9 sc 150 M = some (7, fun j => (stI 150).getD j 0) := rfl
theorem a151 {M : Mem} {sc : Scr} : arrV9 sc 151 M = some (7, fun j => (stI 151).getD j 0) := rfl
theorem a152 {M : Mem} {sc : Scr} : arrV9 sc 152 M = some (7, fun j => (stI 152).getD j 0) := rfl
theorem q160 : isCl 100 160 = true := rfl
theorem q161 : isCl 100 161 = true := rfl
theorem q162 : isCl 100 162 = true := rfl
theorem q163 : isCl 100 163 = true := rfl
theorem q164 : isCl 100 164 = true := rfl
theorem q165 : isCl 100 165 = true := rfl
theorem q166 : isCl 100 166 = true := rfl
theorem q167 : isCl 100 167 = true := rfl
theorem q168 : isCl 100 168 = true := rfl
theorem q169 : isCl 100 169 = true := rfl
theorem q170 : isCl 100 170 = true := rfl
theorem q171 : isCl 100 171 = true := rfl
theorem a180 : arrB 180 = some (lenS.getD 0 0, fun j => (bytS.getD 0 []).getD j 0) := rfl
theorem a181 : arrB 181 = some (lenS.getD 1 0, fun j => (bytS.getD 1 []).getD j 0) := rfl
theorem a182 : arrB 182 = some (lenS.getD 2 0, fun j => (bytS.getD 2 []).getD j 0) := rfl
theorem a183 : arrB 183 = some (lenS.getD 3 0, fun j => (bytS.getD 3 []).getD j 0) := rfl
theorem a184 : arrB 184 = some (lenS.getD 4 0, fun j => (bytS.getD 4 []).getD j 0) := rfl
theorem a185 : arrB 185 = some (lenS.getD 5 0, fun j => (bytS.getD 5 []).getD j 0) := rfl
theorem a186 : arrB 186 = some (lenS.getD 6 0, fun j => (bytS.getD 6 []).getD j 0) := rfl
theorem a187 : arrB 187 = some (lenS.getD 7 0, fun j => (bytS.getD 7 []).getD j 0) := rfl
theorem a188 : arrB 188 = some (lenS.getD 8 0, fun j => (bytS.getD 8 []).getD j 0) := rfl
theorem a189 : arrB 189 = some (lenS.getD 9 0, fun j => (bytS.getD 9 []).getD j 0) := rfl
theorem a190 : arrB 190 = some (lenS.getD 10 0, fun j => (bytS.getD 10 []).getD j 0) := rfl
theorem a191 : arrB 191 = some (lenS.getD 11 0, fun j => (bytS.getD 11 []).getD j 0) := rfl
theorem o10_0 {M : Mem} : slotV 1 0 10 M = some (.int (M 10 0)) := rfl
theorem p10_0 : isInt 1 0 10 = true := rfl
theorem o10_1 {M : Mem} : slotV 1 1 10 M = some (.ref 11) := rfl
theorem o10_2 {M : Mem} : slotV 1 2 10 M = some (.ref 12) := rfl
theorem o10_3 {M : Mem} : slotV 1 3 10 M = some (.ref 13) := rfl
theorem o10_4 {M : Mem} : slotV 1 4 10 M = some (.ref 14) := rfl
theorem o10_5 {M : Mem} : slotV 1 5 10 M = some (.ref 15) := rfl
theorem o10_6 {M : Mem} : slotV 1 6 10 M = some (.ref 16) := rfl
theorem o10_7 {M : Mem} : slotV 1 7 10 M = some (.ref 17) := rfl
theorem o10_8 {M : Mem} : slotV 1 8 10 M = some (.ref 18) := rfl
theorem o10_9 {M : Mem} : slotV 1 9 10 M = some (.int (M 10 9)) := rfl
theorem p10_9 : isInt 1 9 10 = true := rfl
theorem o10_10 {M : Mem} : slotV 1 10 10 M = some (.int (M 10 10)) := rfl
theorem p10_10 : isInt 1 10 10 = true := rfl
theorem o10_11 {M : Mem} : slotV 1 11 10 M = some (.int (M 10 11)) := rfl
theorem p10_11 : isInt 1 11 10 = true := rfl
theorem o10_12 {M : Mem} : slotV 1 12 10 M = some (.int (M 10 12)) := rfl
theorem p10_12 : isInt 1 12 10 = true := rfl
theorem o10_13 {M : Mem} : slotV 1 13 10 M = some (.int (M 10 13)) := rfl
theorem p10_13 : isInt 1 13 10 = true := rfl
theorem o10_14 {M : Mem} : slotV 1 14 10 M = some (.int (M 10 14)) := rfl
theorem p10_14 : isInt 1 14 10 = true := rfl
theorem q10 : isCl 1 10 = true := rfl
theorem o20_0 {M : Mem} : slotV 1 0 20 M = some (.int (M 20 0)) := rfl
theorem p20_0 : isInt 1 0 20 = true := rfl
theorem o20_1 {M : Mem} : slotV 1 1 20 M = some (.ref 21) := rfl
theorem o20_2 {M : Mem} : slotV 1 2 20 M = some (.ref 22) := rfl
theorem o20_3 {M : Mem} : slotV 1 3 20 M = some (.ref 23) := rfl
theorem o20_4 {M : Mem} : slotV 1 4 20 M = some (.ref 24) := rfl
theorem o20_5 {M : Mem} : slotV 1 5 20 M = some (.ref 25) := rfl
theorem o20_6 {M : Mem} : slotV 1 6 20 M = some (.ref 26) := rfl
theorem o20_7 {M : Mem} : slotV 1 7 20 M = some (.ref 27) := rfl
theorem o20_8 {M : Mem} : slotV 1 8 20 M = some (.ref 28) := rfl
theorem o20_9 {M : Mem} : slotV 1 9 20 M = some (.int (M 20 9)) := rfl
theorem p20_9 : isInt 1 9 20 = true := rfl
theorem o20_10 {M : Mem} : slotV 1 10 20 M = some (.int (M 20 10)) := rfl
theorem p20_10 : isInt 1 10 20 = true := rfl
theorem o20_11 {M : Mem} : slotV 1 11 20 M = some (.int (M 20 11)) := rfl
theorem p20_11 : isInt 1 11 20 = true := rfl
theorem o20_12 {M : Mem} : slotV 1 12 20 M = some (.int (M 20 12)) := rfl
theorem p20_12 : isInt 1 12 20 = true := rfl
theorem o20_13 {M : Mem} : slotV 1 13 20 M = some (.int (M 20 13)) := rfl
theorem p20_13 : isInt 1 13 20 = true := rfl
theorem o20_14 {M : Mem} : slotV 1 14 20 M = some (.int (M 20 14)) := rfl
theorem p20_14 : isInt 1 14 20 = true := rfl
theorem q20 : isCl 1 20 = true := rfl
theorem o30_0 {M : Mem} : slotV 1 0 30 M = some (.int (M 30 0)) := rfl
theorem p30_0 : isInt 1 0 30 = true := rfl
theorem o30_1 {M : Mem} : slotV 1 1 30 M = some (.ref 31) := rfl
theorem o30_2 {M : Mem} : slotV 1 2 30 M = some (.ref 32) := rfl
theorem o30_3 {M : Mem} : slotV 1 3 30 M = some (.ref 33) := rfl
theorem o30_4 {M : Mem} : slotV 1 4 30 M = some (.ref 34) := rfl
theorem o30_5 {M : Mem} : slotV 1 5 30 M = some (.ref 35) := rfl
theorem o30_6 {M : Mem} : slotV 1 6 30 M = some (.ref 36) := rfl
theorem o30_7 {M : Mem} : slotV 1 7 30 M = some (.ref 37) := rfl
theorem o30_8 {M : Mem} : slotV 1 8 30 M = some (.ref 38) := rfl
theorem o30_9 {M : Mem} : slotV 1 9 30 M = some (.int (M 30 9)) := rfl
theorem p30_9 : isInt 1 9 30 = true := rfl
theorem o30_10 {M : Mem} : slotV 1 10 30 M = some (.int (M 30 10)) := rfl
theorem p30_10 : isInt 1 10 30 = true := rfl
theorem o30_11 {M : Mem} : slotV 1 11 30 M = some (.int (M 30 11)) := rfl
theorem p30_11 : isInt 1 11 30 = true := rfl
theorem o30_12 {M : Mem} : slotV 1 12 30 M = some (.int (M 30 12)) := rfl
theorem p30_12 : isInt 1 12 30 = true := rfl
theorem o30_13 {M : Mem} : slotV 1 13 30 M = some (.int (M 30 13)) := rfl
theorem p30_13 : isInt 1 13 30 = true := rfl
theorem o30_14 {M : Mem} : slotV 1 14 30 M = some (.int (M 30 14)) := rfl
theorem p30_14 : isInt 1 14 30 = true := rfl
theorem q30 : isCl 1 30 = true := rfl
theorem o40_0 {M : Mem} : slotV 1 0 40 M = some (.int (M 40 0)) := rfl
theorem p40_0 : isInt 1 0 40 = true := rfl
theorem o40_1 {M : Mem} : slotV 1 1 40 M = some (.ref 41) := rfl
theorem o40_2 {M : Mem} : slotV 1 2 40 M = some (.ref 42) := rfl
theorem o40_3 {M : Mem} : slotV 1 3 40 M = some (.ref 43) := rfl
theorem o40_4 {M : Mem} : slotV 1 4 40 M = some (.ref 44) := rfl
theorem o40_5 {M : Mem} : slotV 1 5 40 M = some (.ref 45) := rfl
theorem o40_6 {M : Mem} : slotV 1 6 40 M = some (.ref 46) := rfl
theorem o40_7 {M : Mem} : slotV 1 7 40 M = some (.ref 47) := rfl
theorem o40_8 {M : Mem} : slotV 1 8 40 M = some (.ref 48) := rfl
theorem o40_9 {M : Mem} : slotV 1 9 40 M = some (.int (M 40 9)) := rfl
theorem p40_9 : isInt 1 9 40 = true := rfl
theorem o40_10 {M : Mem} : slotV 1 10 40 M = some (.int (M 40 10)) := rfl
theorem p40_10 : isInt 1 10 40 = true := rfl
theorem o40_11 {M : Mem} : slotV 1 11 40 M = some (.int (M 40 11)) := rfl
theorem p40_11 : isInt 1 11 40 = true := rfl
theorem o40_12 {M : Mem} : slotV 1 12 40 M = some (.int (M 40 12)) := rfl
theorem p40_12 : isInt 1 12 40 = true := rfl
theorem o40_13 {M : Mem} : slotV 1 13 40 M = some (.int (M 40 13)) := rfl
theorem p40_13 : isInt 1 13 40 = true := rfl
theorem o40_14 {M : Mem} : slotV 1 14 40 M = some (.int (M 40 14)) := rfl
theorem p40_14 : isInt 1 14 40 = true := rfl
theorem q40 : isCl 1 40 = true := rfl
theorem o50_0 {M : Mem} : slotV 1 0 50 M = some (.int (M 50 0)) := rfl
theorem p50_0 : isInt 1 0 50 = true := rfl
theorem o50_1 {M : Mem} : slotV 1 1 50 M = some (.ref 51) := rfl
theorem o50_2 {M : Mem} : slotV 1 2 50 M = some (.ref 52) := rfl
theorem o50_3 {M : Mem} : slotV 1 3 50 M = some (.ref 53) := rfl
theorem o50_4 {M : Mem} : slotV 1 4 50 M = some (.ref 54) := rfl
theorem o50_5 {M : Mem} : slotV 1 5 50 M = some (.ref 55) := rfl
theorem o50_6 {M : Mem} : slotV 1 6 50 M = some (.ref 56) := rfl
theorem o50_7 {M : Mem} : slotV 1 7 50 M = some (.ref 57) := rfl
theorem o50_8 {M : Mem} : slotV 1 8 50 M = some (.ref 58) := rfl
theorem o50_9 {M : Mem} : slotV 1 9 50 M = some (.int (M 50 9)) := rfl
theorem p50_9 : isInt 1 9 50 = true := rfl
theorem o50_10 {M : Mem} : slotV 1 10 50 M = some (.int (M 50 10)) := rfl
theorem p50_10 : isInt 1 10 50 = true := rfl
theorem o50_11 {M : Mem} : slotV 1 11 50 M = some (.int (M 50 11)) := rfl
theorem p50_11 : isInt 1 11 50 = true := rfl
theorem o50_12 {M : Mem} : slotV 1 12 50 M = some (.int (M 50 12)) := rfl
theorem p50_12 : isInt 1 12 50 = true := rfl
theorem o50_13 {M : Mem} : slotV 1 13 50 M = some (.int (M 50 13)) := rfl
theorem p50_13 : isInt 1 13 50 = true := rfl
theorem o50_14 {M : Mem} : slotV 1 14 50 M = some (.int (M 50 14)) := rfl
theorem p50_14 : isInt 1 14 50 = true := rfl
theorem q50 : isCl 1 50 = true := rfl
theorem o60_0 {M : Mem} : slotV 1 0 60 M = some (.int (M 60 0)) := rfl
theorem p60_0 : isInt 1 0 60 = true := rfl
theorem o60_1 {M : Mem} : slotV 1 1 60 M = some (.ref 61) := rfl
theorem o60_2 {M : Mem} : slotV 1 2 60 M = some (.ref 62) := rfl
theorem o60_3 {M : Mem} : slotV 1 3 60 M = some (.ref 63) := rfl
theorem o60_4 {M : Mem} : slotV 1 4 60 M = some (.ref 64) := rfl
theorem o60_5 {M : Mem} : slotV 1 5 60 M = some (.ref 65) := rfl
theorem o60_6 {M : Mem} : slotV 1 6 60 M = some (.ref 66) := rfl
theorem o60_7 {M : Mem} : slotV 1 7 60 M = some (.ref 67) := rfl
theorem o60_8 {M : Mem} : slotV 1 8 60 M = some (.ref 68) := rfl
theorem o60_9 {M : Mem} : slotV 1 9 60 M = some (.int (M 60 9)) := rfl
theorem p60_9 : isInt 1 9 60 = true := rfl
theorem o60_10 {M : Mem} : slotV 1 10 60 M = some (.int (M 60 10)) := rfl
theorem p60_10 : isInt 1 10 60 = true := rfl
theorem o60_11 {M : Mem} : slotV 1 11 60 M = some (.int (M 60 11)) := rfl
theorem p60_11 : isInt 1 11 60 = true := rfl
theorem o60_12 {M : Mem} : slotV 1 12 60 M = some (.int (M 60 12)) := rfl
theorem p60_12 : isInt 1 12 60 = true := rfl
theorem o60_13 {M : Mem} : slotV 1 13 60 M = some (.int (M 60 13)) := rfl
theorem p60_13 : isInt 1 13 60 = true := rfl
theorem o60_14 {M : Mem} : slotV 1 14 60 M = some (.int (M 60 14)) := rfl
theorem p60_14 : isInt 1 14 60 = true := rfl
theorem q60 : isCl 1 60 = true := rfl
theorem o70_0 {M : Mem} : slotV 1 0 70 M = some (.int (M 70 0)) := rfl
theorem p70_0 : isInt 1 0 70 = true := rfl
theorem o70_1 {M : Mem} : slotV 1 1 70 M = some (.ref 71) := rfl
theorem o70_2 {M : Mem} : slotV 1 2 70 M = some (.ref 72) := rfl
theorem o70_3 {M : Mem} : slotV 1 3 70 M = some (.ref 73) := rfl
theorem o70_4 {M : Mem} : slotV 1 4 70 M = some (.ref 74) := rfl
theorem o70_5 {M : Mem} : slotV 1 5 70 M = some (.ref 75) := rfl
theorem o70_6 {M : Mem} : slotV 1 6 70 M = some (.ref 76) := rfl
theorem o70_7 {M : Mem} : slotV 1 7 70 M = some (.ref 77) := rfl
theorem o70_8 {M : Mem} : slotV 1 8 70 M = some (.ref 78) := rfl
theorem o70_9 {M : Mem} : slotV 1 9 70 M = some (.int (M 70 9)) := rfl
theorem p70_9 : isInt 1 9 70 = true := rfl
theorem o70_10 {M : Mem} : slotV 1 10 70 M = some (.int (M 70 10)) := rfl
theorem p70_10 : isInt 1 10 70 = true := rfl
theorem o70_11 {M : Mem} : slotV 1 11 70 M = some (.int (M 70 11)) := rfl
theorem p70_11 : isInt 1 11 70 = true := rfl
theorem o70_12 {M : Mem} : slotV 1 12 70 M = some (.int (M 70 12)) := rfl
theorem p70_12 : isInt 1 12 70 = true := rfl
theorem o70_13 {M : Mem} : slotV 1 13 70 M = some (.int (M 70 13)) := rfl
theorem p70_13 : isInt 1 13 70 = true := rfl
theorem o70_14 {M : Mem} : slotV 1 14 70 M = some (.int (M 70 14)) := rfl
theorem p70_14 : isInt 1 14 70 = true := rfl
theorem q70 : isCl 1 70 = true := rfl
theorem o80_0 {M : Mem} : slotV 1 0 80 M = some (.int (M 80 0)) := rfl
theorem p80_0 : isInt 1 0 80 = true := rfl
theorem o80_1 {M : Mem} : slotV 1 1 80 M = some (.ref 81) := rfl
theorem o80_2 {M : Mem} : slotV 1 2 80 M = some (.ref 82) := rfl
theorem o80_3 {M : Mem} : slotV 1 3 80 M = some (.ref 83) := rfl
theorem o80_4 {M : Mem} : slotV 1 4 80 M = some (.ref 84) := rfl
theorem o80_5 {M : Mem} : slotV 1 5 80 M = some (.ref 85) := rfl
theorem o80_6 {M : Mem} : slotV 1 6 80 M = some (.ref 86) := rfl
theorem o80_7 {M : Mem} : slotV 1 7 80 M = some (.ref 87) := rfl
theorem o80_8 {M : Mem} : slotV 1 8 80 M = some (.ref 88) := rfl
theorem o80_9 {M : Mem} : slotV 1 9 80 M = some (.int (M 80 9)) := rfl
theorem p80_9 : isInt 1 9 80 = true := rfl
theorem o80_10 {M : Mem} : slotV 1 10 80 M = some (.int (M 80 10)) := rfl
theorem p80_10 : isInt 1 10 80 = true := rfl
theorem o80_11 {M : Mem} : slotV 1 11 80 M = some (.int (M 80 11)) := rfl
theorem p80_11 : isInt 1 11 80 = true := rfl
theorem o80_12 {M : Mem} : slotV 1 12 80 M = some (.int (M 80 12)) := rfl
theorem p80_12 : isInt 1 12 80 = true := rfl
theorem o80_13 {M : Mem} : slotV 1 13 80 M = some (.int (M 80 13)) := rfl
theorem p80_13 : isInt 1 13 80 = true := rfl
theorem o80_14 {M : Mem} : slotV 1 14 80 M = some (.int (M 80 14)) := rfl
theorem p80_14 : isInt 1 14 80 = true := rfl
theorem q80 : isCl 1 80 = true := rfl
theorem tn_0 : (0 : Int32).toNatClampNeg = 0 := by decide
theorem tn_1 : (1 : Int32).toNatClampNeg = 1 := by decide
theorem tn_2 : (2 : Int32).toNatClampNeg = 2 := by decide
theorem tn_3 : (3 : Int32).toNatClampNeg = 3 := by decide
theorem tn_4 : (4 : Int32).toNatClampNeg = 4 := by decide
theorem tn_5 : (5 : Int32).toNatClampNeg = 5 := by decide
theorem tn_6 : (6 : Int32).toNatClampNeg = 6 := by decide
theorem tn_7 : (7 : Int32).toNatClampNeg = 7 := by decide
theorem tn_8 : (8 : Int32).toNatClampNeg = 8 := by decide
theorem tn_9 : (9 : Int32).toNatClampNeg = 9 := by decide
theorem tn_10 : (10 : Int32).toNatClampNeg = 10 := by decide
theorem tn_11 : (11 : Int32).toNatClampNeg = 11 := by decide
theorem tn_12 : (12 : Int32).toNatClampNeg = 12 := by decide
theorem tn_13 : (13 : Int32).toNatClampNeg = 13 := by decide
theorem tn_14 : (14 : Int32).toNatClampNeg = 14 := by decide
theorem tn_15 : (15 : Int32).toNatClampNeg = 15 := by decide
theorem tn_16 : (16 : Int32).toNatClampNeg = 16 := by decide
theorem tn_17 : (17 : Int32).toNatClampNeg = 17 := by decide
theorem tn_18 : (18 : Int32).toNatClampNeg = 18 := by decide
theorem tn_19 : (19 : Int32).toNatClampNeg = 19 := by decide
theorem tn_20 : (20 : Int32).toNatClampNeg = 20 := by decide
theorem tn_21 : (21 : Int32).toNatClampNeg = 21 := by decide
theorem tn_22 : (22 : Int32).toNatClampNeg = 22 := by decide
theorem tn_23 : (23 : Int32).toNatClampNeg = 23 := by decide
theorem tn_24 : (24 : Int32).toNatClampNeg = 24 := by decide
theorem tn_25 : (25 : Int32).toNatClampNeg = 25 := by decide
theorem tn_26 : (26 : Int32).toNatClampNeg = 26 := by decide
theorem tn_27 : (27 : Int32).toNatClampNeg = 27 := by decide
theorem tn_28 : (28 : Int32).toNatClampNeg = 28 := by decide
theorem tn_29 : (29 : Int32).toNatClampNeg = 29 := by decide
theorem tn_30 : (30 : Int32).toNatClampNeg = 30 := by decide
theorem tn_31 : (31 : Int32).toNatClampNeg = 31 := by decide
theorem tn_32 : (32 : Int32).toNatClampNeg = 32 := by decide
theorem tn_33 : (33 : Int32).toNatClampNeg = 33 := by decide
theorem tn_34 : (34 : Int32).toNatClampNeg = 34 := by decide
theorem tn_35 : (35 : Int32).toNatClampNeg = 35 := by decide
theorem tn_36 : (36 : Int32).toNatClampNeg = 36 := by decide
theorem tn_37 : (37 : Int32).toNatClampNeg = 37 := by decide
theorem tn_38 : (38 : Int32).toNatClampNeg = 38 := by decide
theorem tn_39 : (39 : Int32).toNatClampNeg = 39 := by decide
theorem tn_40 : (40 : Int32).toNatClampNeg = 40 := by decide
theorem tn_41 : (41 : Int32).toNatClampNeg = 41 := by decide
theorem tn_42 : (42 : Int32).toNatClampNeg = 42 := by decide
theorem tn_43 : (43 : Int32).toNatClampNeg = 43 := by decide
theorem tn_44 : (44 : Int32).toNatClampNeg = 44 := by decide
theorem tn_45 : (45 : Int32).toNatClampNeg = 45 := by decide
theorem tn_46 : (46 : Int32).toNatClampNeg = 46 := by decide
theorem tn_47 : (47 : Int32).toNatClampNeg = 47 := by decide
theorem tn_48 : (48 : Int32).toNatClampNeg = 48 := by decide
theorem tn_49 : (49 : Int32).toNatClampNeg = 49 := by decide
theorem tn_50 : (50 : Int32).toNatClampNeg = 50 := by decide
theorem tn_51 : (51 : Int32).toNatClampNeg = 51 := by decide
theorem tn_52 : (52 : Int32).toNatClampNeg = 52 := by decide
theorem tn_53 : (53 : Int32).toNatClampNeg = 53 := by decide
theorem tn_54 : (54 : Int32).toNatClampNeg = 54 := by decide
theorem tn_55 : (55 : Int32).toNatClampNeg = 55 := by decide
theorem tn_56 : (56 : Int32).toNatClampNeg = 56 := by decide
theorem tn_57 : (57 : Int32).toNatClampNeg = 57 := by decide
theorem tn_58 : (58 : Int32).toNatClampNeg = 58 := by decide
theorem tn_59 : (59 : Int32).toNatClampNeg = 59 := by decide
theorem tn_60 : (60 : Int32).toNatClampNeg = 60 := by decide
theorem tn_61 : (61 : Int32).toNatClampNeg = 61 := by decide
theorem tn_62 : (62 : Int32).toNatClampNeg = 62 := by decide
theorem tn_63 : (63 : Int32).toNatClampNeg = 63 := by decide
theorem tn_64 : (64 : Int32).toNatClampNeg = 64 := by decide
theorem tn_65 : (65 : Int32).toNatClampNeg = 65 := by decide
theorem tn_66 : (66 : Int32).toNatClampNeg = 66 := by decide
theorem tn_67 : (67 : Int32).toNatClampNeg = 67 := by decide
theorem tn_68 : (68 : Int32).toNatClampNeg = 68 := by decide
theorem tn_69 : (69 : Int32).toNatClampNeg = 69 := by decide
theorem tn_70 : (70 : Int32).toNatClampNeg = 70 := by decide
theorem tn_71 : (71 : Int32).toNatClampNeg = 71 := by decide
theorem tn_72 : (72 : Int32).toNatClampNeg = 72 := by decide
theorem tn_73 : (73 : Int32).toNatClampNeg = 73 := by decide
theorem tn_74 : (74 : Int32).toNatClampNeg = 74 := by decide
theorem tn_75 : (75 : Int32).toNatClampNeg = 75 := by decide
theorem tn_76 : (76 : Int32).toNatClampNeg = 76 := by decide
theorem tn_77 : (77 : Int32).toNatClampNeg = 77 := by decide
theorem tn_78 : (78 : Int32).toNatClampNeg = 78 := by decide
theorem tn_79 : (79 : Int32).toNatClampNeg = 79 := by decide
theorem tn_80 : (80 : Int32).toNatClampNeg = 80 := by decide
theorem tn_81 : (81 : Int32).toNatClampNeg = 81 := by decide
theorem tn_82 : (82 : Int32).toNatClampNeg = 82 := by decide
theorem tn_83 : (83 : Int32).toNatClampNeg = 83 := by decide
theorem tn_84 : (84 : Int32).toNatClampNeg = 84 := by decide
theorem tn_85 : (85 : Int32).toNatClampNeg = 85 := by decide
theorem tn_86 : (86 : Int32).toNatClampNeg = 86 := by decide
theorem tn_87 : (87 : Int32).toNatClampNeg = 87 := by decide
theorem tn_88 : (88 : Int32).toNatClampNeg = 88 := by decide
theorem tn_89 : (89 : Int32).toNatClampNeg = 89 := by decide
theorem tn_90 : (90 : Int32).toNatClampNeg = 90 := by decide
theorem tn_91 : (91 : Int32).toNatClampNeg = 91 := by decide
theorem tn_92 : (92 : Int32).toNatClampNeg = 92 := by decide
theorem tn_93 : (93 : Int32).toNatClampNeg = 93 := by decide
theorem tn_94 : (94 : Int32).toNatClampNeg = 94 := by decide
theorem tn_95 : (95 : Int32).toNatClampNeg = 95 := by decide
theorem tn_96 : (96 : Int32).toNatClampNeg = 96 := by decide
theorem tn_97 : (97 : Int32).toNatClampNeg = 97 := by decide
theorem tn_98 : (98 : Int32).toNatClampNeg = 98 := by decide
theorem tn_99 : (99 : Int32).toNatClampNeg = 99 := by decide
theorem tn_100 : (100 : Int32).toNatClampNeg = 100 := by decide
theorem tn_101 : (101 : Int32).toNatClampNeg = 101 := by decide
theorem tn_102 : (102 : Int32).toNatClampNeg = 102 := by decide
theorem tn_103 : (103 : Int32).toNatClampNeg = 103 := by decide
theorem tn_104 : (104 : Int32).toNatClampNeg = 104 := by decide
theorem tn_105 : (105 : Int32).toNatClampNeg = 105 := by decide
theorem tn_106 : (106 : Int32).toNatClampNeg = 106 := by decide
theorem tn_107 : (107 : Int32).toNatClampNeg = 107 := by decide
theorem tn_108 : (108 : Int32).toNatClampNeg = 108 := by decide
theorem tn_109 : (109 : Int32).toNatClampNeg = 109 := by decide
theorem tn_110 : (110 : Int32).toNatClampNeg = 110 := by decide
theorem tn_111 : (111 : Int32).toNatClampNeg = 111 := by decide
theorem tn_112 : (112 : Int32).toNatClampNeg = 112 := by decide
theorem tn_113 : (113 : Int32).toNatClampNeg = 113 := by decide
theorem tn_114 : (114 : Int32).toNatClampNeg = 114 := by decide
theorem tn_115 : (115 : Int32).toNatClampNeg = 115 := by decide
theorem tn_116 : (116 : Int32).toNatClampNeg = 116 := by decide
theorem tn_117 : (117 : Int32).toNatClampNeg = 117 := by decide
theorem tn_118 : (118 : Int32).toNatClampNeg = 118 := by decide
theorem tn_119 : (119 : Int32).toNatClampNeg = 119 := by decide
theorem tn_120 : (120 : Int32).toNatClampNeg = 120 := by decide
theorem tn_121 : (121 : Int32).toNatClampNeg = 121 := by decide
theorem tn_122 : (122 : Int32).toNatClampNeg = 122 := by decide
theorem tn_123 : (123 : Int32).toNatClampNeg = 123 := by decide
theorem tn_124 : (124 : Int32).toNatClampNeg = 124 := by decide
theorem tn_125 : (125 : Int32).toNatClampNeg = 125 := by decide
theorem tn_126 : (126 : Int32).toNatClampNeg = 126 := by decide
theorem tn_127 : (127 : Int32).toNatClampNeg = 127 := by decide
theorem tn_128 : (128 : Int32).toNatClampNeg = 128 := by decide
theorem tn_129 : (129 : Int32).toNatClampNeg = 129 := by decide
theorem tn_130 : (130 : Int32).toNatClampNeg = 130 := by decide
theorem tn_131 : (131 : Int32).toNatClampNeg = 131 := by decide
theorem tn_132 : (132 : Int32).toNatClampNeg = 132 := by decide
theorem tn_133 : (133 : Int32).toNatClampNeg = 133 := by decide
theorem tn_134 : (134 : Int32).toNatClampNeg = 134 := by decide
theorem tn_135 : (135 : Int32).toNatClampNeg = 135 := by decide
theorem tn_136 : (136 : Int32).toNatClampNeg = 136 := by decide
theorem tn_137 : (137 : Int32).toNatClampNeg = 137 := by decide
theorem tn_138 : (138 : Int32).toNatClampNeg = 138 := by decide
theorem tn_139 : (139 : Int32).toNatClampNeg = 139 := by decide
theorem tn_140 : (140 : Int32).toNatClampNeg = 140 := by decide
theorem tn_141 : (141 : Int32).toNatClampNeg = 141 := by decide
theorem tn_142 : (142 : Int32).toNatClampNeg = 142 := by decide
theorem tn_143 : (143 : Int32).toNatClampNeg = 143 := by decide
theorem tn_144 : (144 : Int32).toNatClampNeg = 144 := by decide
theorem ib_0_4 : inb 0 4 = true := by decide
theorem ib_0_5 : inb 0 5 = true := by decide
theorem ib_0_7 : inb 0 7 = true := by decide
theorem ib_0_8 : inb 0 8 = true := by decide
theorem ib_0_10 : inb 0 10 = true := by decide
theorem ib_0_12 : inb 0 12 = true := by decide
theorem ib_0_40 : inb 0 40 = true := by decide
theorem ib_0_120 : inb 0 120 = true := by decide
theorem ib_0_132 : inb 0 132 = true := by decide
theorem ib_1_4 : inb 1 4 = true := by decide
theorem ib_1_5 : inb 1 5 = true := by decide
theorem ib_1_7 : inb 1 7 = true := by decide
theorem ib_1_8 : inb 1 8 = true := by decide
theorem ib_1_10 : inb 1 10 = true := by decide
theorem ib_1_12 : inb 1 12 = true := by decide
theorem ib_1_132 : inb 1 132 = true := by decide
theorem ib_2_4 : inb 2 4 = true := by decide
theorem ib_2_5 : inb 2 5 = true := by decide
theorem ib_2_7 : inb 2 7 = true := by decide
theorem ib_2_8 : inb 2 8 = true := by decide
theorem ib_2_10 : inb 2 10 = true := by decide
theorem ib_2_12 : inb 2 12 = true := by decide
theorem ib_2_132 : inb 2 132 = true := by decide
theorem ib_3_4 : inb 3 4 = true := by decide
theorem ib_3_5 : inb 3 5 = true := by decide
theorem ib_3_7 : inb 3 7 = true := by decide
theorem ib_3_8 : inb 3 8 = true := by decide
theorem ib_3_10 : inb 3 10 = true := by decide
theorem ib_3_12 : inb 3 12 = true := by decide
theorem ib_3_132 : inb 3 132 = true := by decide
theorem ib_4_5 : inb 4 5 = true := by decide
theorem ib_4_7 : inb 4 7 = true := by decide
theorem ib_4_8 : inb 4 8 = true := by decide
theorem ib_4_10 : inb 4 10 = true := by decide
theorem ib_4_12 : inb 4 12 = true := by decide
theorem ib_4_132 : inb 4 132 = true := by decide
theorem ib_5_7 : inb 5 7 = true := by decide
theorem ib_5_8 : inb 5 8 = true := by decide
theorem ib_5_10 : inb 5 10 = true := by decide
theorem ib_5_12 : inb 5 12 = true := by decide
theorem ib_5_132 : inb 5 132 = true := by decide
theorem ib_6_7 : inb 6 7 = true := by decide
theorem ib_6_8 : inb 6 8 = true := by decide
theorem ib_6_10 : inb 6 10 = true := by decide
theorem ib_6_12 : inb 6 12 = true := by decide
theorem ib_6_132 : inb 6 132 = true := by decide
theorem ib_7_8 : inb 7 8 = true := by decide
theorem ib_7_10 : inb 7 10 = true := by decide
theorem ib_7_12 : inb 7 12 = true := by decide
theorem ib_7_132 : inb 7 132 = true := by decide
theorem ib_8_10 : inb 8 10 = true := by decide
theorem ib_8_12 : inb 8 12 = true := by decide
theorem ib_8_132 : inb 8 132 = true := by decide
theorem ib_9_10 : inb 9 10 = true := by decide
theorem ib_9_12 : inb 9 12 = true := by decide
theorem ib_10_12 : inb 10 12 = true := by decide
theorem ib_11_12 : inb 11 12 = true := by decide
theorem ib_18_132 : inb 18 132 = true := by decide
theorem ib_88_132 : inb 88 132 = true := by decide
theorem ib_96_132 : inb 96 132 = true := by decide
