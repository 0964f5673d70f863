/-! the class's hen: what feeds, comes, goes -/
theorem cp10 {x y : Nat} (hx : arrN x = some 10) (hy : arrN y = some 10) : cpy9 x y 0 0 10 = true := by
  unfold cpy9
  rw [hx, hy]
  decide
theorem cp8 {x y : Nat} (hx : arrN x = some 8) (hy : arrN y = some 8) : cpy9 x y 0 0 8 = true := by
  unfold cpy9
  rw [hx, hy]
  decide
theorem cp12 {x y : Nat} (hx : arrN x = some 12) (hy : arrN y = some 12) : cpy9 x y 0 0 12 = true := by
  unfold cpy9
  rw [hx, hy]
  decide
theorem hen_far {b s : Nat} (hb : isHen b) (hs : isHen s) (h : b ≠ s) : b + 9 ≤ s ∨ s + 9 ≤ b := by
  unfold isHen at hb hs
  omega
set_option maxHeartbeats 800000 in
theorem C_become {d b s : Nat} {M : Mem} {r : Rw} (hb : isHen b) (hs : isHen s) (hne : b ≠ s) (h : HR M s r) (w : WR r) : ∃ M', call (d + 1) 34 [.ref b, .ref s] M = some (none, M') ∧ HR M' b r ∧ Ou b M M' := by
  have hf := hen_far hb hs hne
  have h8 := wr_C w
  rw [nX1_become]
  simp only [sX1_become_0, sX1_become_1, sX1_become_2, sX1_become_5, sX1_become_8, sX1_become_9, sX1_become_12, sX1_become_13, sX1_become_14, sX1_become_17, sX1_become_18, sX1_become_20, sX1_become_23, sX1_become_24, sX1_become_27, sX1_become_28, sX1_become_29, sX1_become_32, sX1_become_33, sX1_become_35, sX1_become_38, sX1_become_39, sX1_become_42, sX1_become_43, sX1_become_44, sX1_become_47, sX1_become_48, sX1_become_50, sX1_become_53, sX1_become_54, sX1_become_57, sX1_become_58, sX1_become_59, sX1_become_62, sX1_become_63, sX1_become_65, sX1_become_68, sX1_become_69, sX1_become_72, sX1_become_73, sX1_become_74, sX1_become_77, sX1_become_78, sX1_become_80, sX1_become_83, sX1_become_84, sX1_become_87, sX1_become_88, sX1_become_89, sX1_become_92, sX1_become_93, sX1_become_95, sX1_become_98, sX1_become_99, sX1_become_102, sX1_become_103, sX1_become_104, sX1_become_107, sX1_become_108, sX1_become_110, sX1_become_113, sX1_become_114, sX1_become_117, sX1_become_118, sX1_become_119, sX1_become_122, sX1_become_123, sX1_become_125, sX1_become_128, sX1_become_129, sX1_become_130, sX1_become_133, sX1_become_136, sX1_become_137, sX1_become_138, sX1_become_141, sX1_become_144, sX1_become_145, sX1_become_146, sX1_become_149, sX1_become_152, opK_some, guK_true, calK_some, rk_nil, rk_int, rk_ref, tl_some, tl_none, nb_int, nb_0, nb_1, nb_if, nb_if', hs_0 hb, hs_1 hb, hs_2 hb, hs_3 hb, hs_4 hb, hs_5 hb, hs_6 hb, hs_7 hb, hs_8 hb, hs_9 hb, hs_10 hb, hs_11 hb, hs_0 hs, hs_1 hs, hs_2 hs, hs_3 hs, hs_4 hs, hs_5 hs, hs_6 hs, hs_7 hs, hs_8 hs, hs_9 hs, hs_10 hs, hs_11 hs, hi_0 hb, hi_9 hb, hi_10 hb, hi_11 hb, cp10 (hn_1 hs) (hn_1 hb), cp10 (hn_2 hs) (hn_2 hb), cp10 (hn_3 hs) (hn_3 hb), cp10 (hn_4 hs) (hn_4 hb), cp10 (hn_5 hs) (hn_5 hb), cp10 (hn_6 hs) (hn_6 hb), cp10 (hn_7 hs) (hn_7 hb), cp8 (hn_8 hs) (hn_8 hb), tn_0, tn_10, tn_8]
  refine ⟨_, rfl, ⟨⟨?_, ?_, ?_, ?_⟩, fun f hf7 t ht => ?_, fun i hi => ?_⟩, fun k hk => ?_⟩
  · rw [← h.1.1]
    repeat (first | rw [mset_rd, if_pos rfl, upd_ne (by omega)] | rw [mset_ne (by omega)] | rw [mrow_ne (by omega)])
    rw [mset_rd, if_pos rfl, upd_at]
  · rw [← h.1.2.1, mset_rd, if_pos rfl, upd_ne (by omega), mset_rd, if_pos rfl, upd_ne (by omega), mset_rd, if_pos rfl, upd_at]
    repeat (first | rw [mset_ne (by omega)] | rw [mrow_ne (by omega)])
  · rw [← h.1.2.2.1, mset_rd, if_pos rfl, upd_ne (by omega), mset_rd, if_pos rfl, upd_at]
    repeat (first | rw [mset_ne (by omega)] | rw [mrow_ne (by omega)])
  · rw [← h.1.2.2.2, mset_rd, if_pos rfl, upd_at]
    repeat (first | rw [mset_ne (by omega)] | rw [mrow_ne (by omega)])
  · rw [← h.2.1 f hf7 t ht]
    rcases (show f = 0 ∨ f = 1 ∨ f = 2 ∨ f = 3 ∨ f = 4 ∨ f = 5 ∨ f = 6 by omega) with rfl | rfl | rfl | rfl | rfl | rfl | rfl
    all_goals
      repeat (first | rw [mrow_at] | rw [mset_ne (by omega)] | rw [mrow_ne (by omega)])
      rw [pk_cpy_in (by omega) (by omega), show 0 + (t - 0) = t by omega]
      repeat (first | rw [mset_ne (by omega)] | rw [mrow_ne (by omega)])
  · rw [← h.2.2 i hi]
    repeat (first | rw [mrow_at] | rw [mset_ne (by omega)] | rw [mrow_ne (by omega)])
    rw [pk_cpy_in (by omega) (by omega), show 0 + (i - 0) = i by omega]
    repeat (first | rw [mset_ne (by omega)] | rw [mrow_ne (by omega)])
  · repeat (first | rw [mset_ne (by omega)] | rw [mrow_ne (by omega)])
