/-! the reference reads an item: the whole -/
def pN (S V : Nat → Int32) (b : Bool) (w lo hi : Int32) (i : Nat) (x : Int32) : Bool × Nat × Int32 := if b = true then ptP S V w lo hi i x else (false, i, x)
def Sd (B : Nat → Int32) (Z : Nat) (b : Bool) (i : Nat) (M : Mem) : Prop := (b = true → Ok B Z i M) ∧ (b = false → Wr B Z i M)
theorem Sd.cg {B : Nat → Int32} {Z i : Nat} {b : Bool} {M M1 : Mem} (h : Sd B Z b i M) (e : M1 138 = M 138) (f : ∀ j, 17 ≤ j → j ≤ 22 → M1 130 j = M 130 j) : Sd B Z b i M1 := ⟨fun z => Ok_cg (h.1 z) e f, fun z => Wr_cg (h.2 z) f⟩
theorem C_part2 {d i w Z : Nat} {b : Bool} {B : Nat → Int32} {M : Mem} {lo hi x : Int32} (hZ : Z ≤ 120) (hB : ∀ i, i < Z → rg (B i) 255) (hw : w < 12) (h : Sd B Z b i M) : ∃ e M1, call (d + 6) 227 [.ref 130, .ref (160 + w)] M = some (some (.int e), M1) ∧ ((e = 0 ∧ M1 = M ∧ Sd B Z (pN (qS B Z) (qV B Z) b (nI w) lo hi i x).1 (pN (qS B Z) (qV B Z) b (nI w) lo hi i x).2.1 M ∧ ((pN (qS B Z) (qV B Z) b (nI w) lo hi i x).1 = true → x = (pN (qS B Z) (qV B Z) b (nI w) lo hi i x).2.2)) ∨ (e = 1 ∧ ∃ v M2, call (d + 6) 228 [.ref 130, .int lo, .int hi] M1 = some (some (.int v), M2) ∧ Lu M M2 ∧ Sd B Z (pN (qS B Z) (qV B Z) b (nI w) lo hi i x).1 (pN (qS B Z) (qV B Z) b (nI w) lo hi i x).2.1 M2 ∧ ((pN (qS B Z) (qV B Z) b (nI w) lo hi i x).1 = true → v = (pN (qS B Z) (qV B Z) b (nI w) lo hi i x).2.2))) := by
  cases b with
  | true =>
    have ok := h.1 rfl
    have ep : pN (qS B Z) (qV B Z) true (nI w) lo hi i x = ptP (qS B Z) (qV B Z) (nI w) lo hi i x := rfl
    rw [ep]
    obtain ⟨e, M1, c1, h1⟩ := C_part (d := d) (lo := lo) (hi := hi) (x := x) hZ hB hw (Or.inl ok)
    refine ⟨e, M1, c1, ?_⟩
    rcases h1 with ⟨e0, e1, e2⟩ | ⟨e0, v, M2, c2, l2, _, e3⟩
    · refine Or.inl ⟨e0, e1, ?_, ?_⟩
      · rw [e2 ok]
        exact ⟨fun _ => ok, fun z => absurd (show true = false from z) (by decide)⟩
      · rw [e2 ok]
        exact fun _ => rfl
    · refine Or.inr ⟨e0, v, M2, c2, l2, ?_, ?_⟩
      · rcases e3 with ⟨g1, g2, g3⟩ | ⟨g1, g2⟩
        · exact ⟨fun _ => g2, fun z => by rw [g1] at z; exact absurd z (by decide)⟩
        · exact ⟨fun z => absurd z g1, fun _ => g2⟩
      · intro z
        rcases e3 with ⟨g1, g2, g3⟩ | ⟨g1, g2⟩
        · exact g3
        · exact absurd z g1
  | false =>
    have wr := h.2 rfl
    exact ⟨0, M, C_w_isNext wr, Or.inl ⟨rfl, rfl, ⟨fun z => absurd (show false = true from z) (by decide), fun _ => wr⟩, fun z => absurd (show false = true from z) (by decide)⟩⟩
theorem L_blk1 {d i Z : Nat} {b : Bool} {B : Nat → Int32} {M : Mem} {k : Int32} (hZ : Z ≤ 120) (hB : ∀ i, i < Z → rg (B i) 255) (h : Sd B Z b i M) : ∃ v M', lim (call (d + 6)) none 6 cX6_readItem none 37 [some (.ref 130), some (.int k), none, none] [] M = lim (call (d + 6)) none 6 cX6_readItem none 59 [some (.ref 130), some (.int k), some (.int v), none] [] M' ∧ Lu M M' ∧ Sd B Z (pN (qS B Z) (qV B Z) b 7 1 9 i 2).1 (pN (qS B Z) (qV B Z) b 7 1 9 i 2).2.1 M' ∧ ((pN (qS B Z) (qV B Z) b 7 1 9 i 2).1 = true → v = (pN (qS B Z) (qV B Z) b 7 1 9 i 2).2.2) := by
  obtain ⟨e, M1, c1, h1⟩ := C_part2 (d := d) (w := 7) (lo := 1) (hi := 9) (x := 2) hZ hB (by omega) h
  rw [show 160 + 7 = 167 from rfl] at c1
  rcases h1 with ⟨rfl, rfl, s, v⟩ | ⟨rfl, v, M2, c2, l, s, hv⟩
  · refine ⟨2, _, ?_, Lu.rf, s, v⟩
    rw [sX6_readItem_37]
    simp only [sX6_readItem_0, sX6_readItem_1, sX6_readItem_4, sX6_readItem_5, sX6_readItem_6, sX6_readItem_9, sX6_readItem_10, sX6_readItem_11, sX6_readItem_14, sX6_readItem_16, sX6_readItem_19, sX6_readItem_20, sX6_readItem_23, sX6_readItem_24, sX6_readItem_27, sX6_readItem_28, sX6_readItem_28_i, sX6_readItem_29, sX6_readItem_32, sX6_readItem_33, sX6_readItem_34, sX6_readItem_37, sX6_readItem_38, sX6_readItem_41, sX6_readItem_44, sX6_readItem_47, sX6_readItem_48, sX6_readItem_49, sX6_readItem_51, sX6_readItem_54, sX6_readItem_57, sX6_readItem_58, sX6_readItem_60, sX6_readItem_63, sX6_readItem_66, sX6_readItem_69, sX6_readItem_70, sX6_readItem_71, sX6_readItem_73, sX6_readItem_76, sX6_readItem_79, sX6_readItem_81, sX6_readItem_82, sX6_readItem_83, sX6_readItem_84, sX6_readItem_85, sX6_readItem_86, sX6_readItem_87, sX6_readItem_90, sX6_readItem_93, sX6_readItem_96, sX6_readItem_97, sX6_readItem_98, sX6_readItem_99, sX6_readItem_102, sX6_readItem_105, sX6_readItem_106, sX6_readItem_109, sX6_readItem_112, sX6_readItem_113, sX6_readItem_116, sX6_readItem_119, sX6_readItem_122, sX6_readItem_123, sX6_readItem_125, sX6_readItem_126, sX6_readItem_127, sX6_readItem_129, sX6_readItem_132, sX6_readItem_133, sX6_readItem_134, sX6_readItem_137, sX6_readItem_140, sX6_readItem_141, sX6_readItem_142, sX6_readItem_145, sX6_readItem_148, sX6_readItem_151, sX6_readItem_152, sX6_readItem_154, sX6_readItem_155, sX6_readItem_156, sX6_readItem_158, sX6_readItem_161, sX6_readItem_162, sX6_readItem_163, sX6_readItem_166, opK_some, guK_true, calK_some, rk_nil, rk_int, rk_ref, tl_some, tl_none, nb_int, nb_0, nb_1, nb_if, nb_if', q130, c1, zero_eq, if_true]
  · refine ⟨v, M2, ?_, l, s, hv⟩
    rw [sX6_readItem_37]
    simp only [sX6_readItem_0, sX6_readItem_1, sX6_readItem_4, sX6_readItem_5, sX6_readItem_6, sX6_readItem_9, sX6_readItem_10, sX6_readItem_11, sX6_readItem_14, sX6_readItem_16, sX6_readItem_19, sX6_readItem_20, sX6_readItem_23, sX6_readItem_24, sX6_readItem_27, sX6_readItem_28, sX6_readItem_28_i, sX6_readItem_29, sX6_readItem_32, sX6_readItem_33, sX6_readItem_34, sX6_readItem_37, sX6_readItem_38, sX6_readItem_41, sX6_readItem_44, sX6_readItem_47, sX6_readItem_48, sX6_readItem_49, sX6_readItem_51, sX6_readItem_54, sX6_readItem_57, sX6_readItem_58, sX6_readItem_60, sX6_readItem_63, sX6_readItem_66, sX6_readItem_69, sX6_readItem_70, sX6_readItem_71, sX6_readItem_73, sX6_readItem_76, sX6_readItem_79, sX6_readItem_81, sX6_readItem_82, sX6_readItem_83, sX6_readItem_84, sX6_readItem_85, sX6_readItem_86, sX6_readItem_87, sX6_readItem_90, sX6_readItem_93, sX6_readItem_96, sX6_readItem_97, sX6_readItem_98, sX6_readItem_99, sX6_readItem_102, sX6_readItem_105, sX6_readItem_106, sX6_readItem_109, sX6_readItem_112, sX6_readItem_113, sX6_readItem_116, sX6_readItem_119, sX6_readItem_122, sX6_readItem_123, sX6_readItem_125, sX6_readItem_126, sX6_readItem_127, sX6_readItem_129, sX6_readItem_132, sX6_readItem_133, sX6_readItem_134, sX6_readItem_137, sX6_readItem_140, sX6_readItem_141, sX6_readItem_142, sX6_readItem_145, sX6_readItem_148, sX6_readItem_151, sX6_readItem_152, sX6_readItem_154, sX6_readItem_155, sX6_readItem_156, sX6_readItem_158, sX6_readItem_161, sX6_readItem_162, sX6_readItem_163, sX6_readItem_166, opK_some, guK_true, calK_some, rk_nil, rk_int, rk_ref, tl_some, tl_none, nb_int, nb_0, nb_1, nb_if, nb_if', q130, c1, c2, one_ne, if_false]
theorem L_blk2 {d i Z : Nat} {b : Bool} {B : Nat → Int32} {M : Mem} {k y : Int32} (hZ : Z ≤ 120) (hB : ∀ i, i < Z → rg (B i) 255) (h : Sd B Z b i M) : ∃ v M', lim (call (d + 6)) none 6 cX6_readItem none 59 [some (.ref 130), some (.int k), some (.int y), none] [] M = lim (call (d + 6)) none 6 cX6_readItem none 82 [some (.ref 130), some (.int k), some (.int y), some (.int v)] [] M' ∧ Lu M M' ∧ Sd B Z (pN (qS B Z) (qV B Z) b 8 0 99 i 10).1 (pN (qS B Z) (qV B Z) b 8 0 99 i 10).2.1 M' ∧ ((pN (qS B Z) (qV B Z) b 8 0 99 i 10).1 = true → v = (pN (qS B Z) (qV B Z) b 8 0 99 i 10).2.2) := by
  obtain ⟨e, M1, c1, h1⟩ := C_part2 (d := d) (w := 8) (lo := 0) (hi := 99) (x := 10) hZ hB (by omega) h
  rw [show 160 + 8 = 168 from rfl] at c1
  rcases h1 with ⟨rfl, rfl, s, v⟩ | ⟨rfl, v, M2, c2, l, s, hv⟩
  · refine ⟨10, _, ?_, Lu.rf, s, v⟩
    rw [sX6_readItem_59]
    simp only [sX6_readItem_0, sX6_readItem_1, sX6_readItem_4, sX6_readItem_5, sX6_readItem_6, sX6_readItem_9, sX6_readItem_10, sX6_readItem_11, sX6_readItem_14, sX6_readItem_16, sX6_readItem_19, sX6_readItem_20, sX6_readItem_23, sX6_readItem_24, sX6_readItem_27, sX6_readItem_28, sX6_readItem_28_i, sX6_readItem_29, sX6_readItem_32, sX6_readItem_33, sX6_readItem_34, sX6_readItem_37, sX6_readItem_38, sX6_readItem_41, sX6_readItem_44, sX6_readItem_47, sX6_readItem_48, sX6_readItem_49, sX6_readItem_51, sX6_readItem_54, sX6_readItem_57, sX6_readItem_58, sX6_readItem_59, sX6_readItem_60, sX6_readItem_63, sX6_readItem_66, sX6_readItem_69, sX6_readItem_70, sX6_readItem_71, sX6_readItem_73, sX6_readItem_76, sX6_readItem_79, sX6_readItem_81, sX6_readItem_83, sX6_readItem_84, sX6_readItem_85, sX6_readItem_86, sX6_readItem_87, sX6_readItem_90, sX6_readItem_93, sX6_readItem_96, sX6_readItem_97, sX6_readItem_98, sX6_readItem_99, sX6_readItem_102, sX6_readItem_105, sX6_readItem_106, sX6_readItem_109, sX6_readItem_112, sX6_readItem_113, sX6_readItem_116, sX6_readItem_119, sX6_readItem_122, sX6_readItem_123, sX6_readItem_125, sX6_readItem_126, sX6_readItem_127, sX6_readItem_129, sX6_readItem_132, sX6_readItem_133, sX6_readItem_134, sX6_readItem_137, sX6_readItem_140, sX6_readItem_141, sX6_readItem_142, sX6_readItem_145, sX6_readItem_148, sX6_readItem_151, sX6_readItem_152, sX6_readItem_154, sX6_readItem_155, sX6_readItem_156, sX6_readItem_158, sX6_readItem_161, sX6_readItem_162, sX6_readItem_163, sX6_readItem_166, opK_some, guK_true, calK_some, rk_nil, rk_int, rk_ref, tl_some, tl_none, nb_int, nb_0, nb_1, nb_if, nb_if', q130, c1, zero_eq, if_true]
  · refine ⟨v, M2, ?_, l, s, hv⟩
    rw [sX6_readItem_59]
    simp only [sX6_readItem_0, sX6_readItem_1, sX6_readItem_4, sX6_readItem_5, sX6_readItem_6, sX6_readItem_9, sX6_readItem_10, sX6_readItem_11, sX6_readItem_14, sX6_readItem_16, sX6_readItem_19, sX6_readItem_20, sX6_readItem_23, sX6_readItem_24, sX6_readItem_27, sX6_readItem_28, sX6_readItem_28_i, sX6_readItem_29, sX6_readItem_32, sX6_readItem_33, sX6_readItem_34, sX6_readItem_37, sX6_readItem_38, sX6_readItem_41, sX6_readItem_44, sX6_readItem_47, sX6_readItem_48, sX6_readItem_49, sX6_readItem_51, sX6_readItem_54, sX6_readItem_57, sX6_readItem_58, sX6_readItem_59, sX6_readItem_60, sX6_readItem_63, sX6_readItem_66, sX6_readItem_69, sX6_readItem_70, sX6_readItem_71, sX6_readItem_73, sX6_readItem_76, sX6_readItem_79, sX6_readItem_81, sX6_readItem_83, sX6_readItem_84, sX6_readItem_85, sX6_readItem_86, sX6_readItem_87, sX6_readItem_90, sX6_readItem_93, sX6_readItem_96, sX6_readItem_97, sX6_readItem_98, sX6_readItem_99, sX6_readItem_102, sX6_readItem_105, sX6_readItem_106, sX6_readItem_109, sX6_readItem_112, sX6_readItem_113, sX6_readItem_116, sX6_readItem_119, sX6_readItem_122, sX6_readItem_123, sX6_readItem_125, sX6_readItem_126, sX6_readItem_127, sX6_readItem_129, sX6_readItem_132, sX6_readItem_133, sX6_readItem_134, sX6_readItem_137, sX6_readItem_140, sX6_readItem_141, sX6_readItem_142, sX6_readItem_145, sX6_readItem_148, sX6_readItem_151, sX6_readItem_152, sX6_readItem_154, sX6_readItem_155, sX6_readItem_156, sX6_readItem_158, sX6_readItem_161, sX6_readItem_162, sX6_readItem_163, sX6_readItem_166, opK_some, guK_true, calK_some, rk_nil, rk_int, rk_ref, tl_some, tl_none, nb_int, nb_0, nb_1, nb_if, nb_if', q130, c1, c2, one_ne, if_false]
theorem L_blk3 {d i Z : Nat} {b : Bool} {B : Nat → Int32} {M : Mem} {k y z : Int32} (hZ : Z ≤ 120) (hB : ∀ i, i < Z → rg (B i) 255) (h : Sd B Z b i M) : ∃ v M', lim (call (d + 6)) none 6 cX6_readItem none 86 [some (.ref 130), some (.int k), some (.int y), some (.int z)] [.int z, .int y, .int k, .ref 130] M = lim (call (d + 6)) none 6 cX6_readItem none 106 [some (.ref 130), some (.int k), some (.int y), some (.int z)] [.int v, .int z, .int y, .int k, .ref 130] M' ∧ Lu M M' ∧ Sd B Z (pN (qS B Z) (qV B Z) b 9 0 1 i 0).1 (pN (qS B Z) (qV B Z) b 9 0 1 i 0).2.1 M' ∧ ((pN (qS B Z) (qV B Z) b 9 0 1 i 0).1 = true → v = (pN (qS B Z) (qV B Z) b 9 0 1 i 0).2.2) := by
  obtain ⟨e, M1, c1, h1⟩ := C_part2 (d := d) (w := 9) (lo := 0) (hi := 1) (x := 0) hZ hB (by omega) h
  rw [show 160 + 9 = 169 from rfl] at c1
  rcases h1 with ⟨rfl, rfl, s, v⟩ | ⟨rfl, v, M2, c2, l, s, hv⟩
  · refine ⟨0, _, ?_, Lu.rf, s, v⟩
    rw [sX6_readItem_86]
    simp only [sX6_readItem_0, sX6_readItem_1, sX6_readItem_4, sX6_readItem_5, sX6_readItem_6, sX6_readItem_9, sX6_readItem_10, sX6_readItem_11, sX6_readItem_14, sX6_readItem_16, sX6_readItem_19, sX6_readItem_20, sX6_readItem_23, sX6_readItem_24, sX6_readItem_27, sX6_readItem_28, sX6_readItem_28_i, sX6_readItem_29, sX6_readItem_32, sX6_readItem_33, sX6_readItem_34, sX6_readItem_37, sX6_readItem_38, sX6_readItem_41, sX6_readItem_44, sX6_readItem_47, sX6_readItem_48, sX6_readItem_49, sX6_readItem_51, sX6_readItem_54, sX6_readItem_57, sX6_readItem_58, sX6_readItem_59, sX6_readItem_60, sX6_readItem_63, sX6_readItem_66, sX6_readItem_69, sX6_readItem_70, sX6_readItem_71, sX6_readItem_73, sX6_readItem_76, sX6_readItem_79, sX6_readItem_81, sX6_readItem_82, sX6_readItem_83, sX6_readItem_84, sX6_readItem_85, sX6_readItem_86, sX6_readItem_87, sX6_readItem_90, sX6_readItem_93, sX6_readItem_96, sX6_readItem_97, sX6_readItem_98, sX6_readItem_99, sX6_readItem_102, sX6_readItem_105, sX6_readItem_109, sX6_readItem_112, sX6_readItem_113, sX6_readItem_116, sX6_readItem_119, sX6_readItem_122, sX6_readItem_123, sX6_readItem_125, sX6_readItem_126, sX6_readItem_127, sX6_readItem_129, sX6_readItem_132, sX6_readItem_133, sX6_readItem_134, sX6_readItem_137, sX6_readItem_140, sX6_readItem_141, sX6_readItem_142, sX6_readItem_145, sX6_readItem_148, sX6_readItem_151, sX6_readItem_152, sX6_readItem_154, sX6_readItem_155, sX6_readItem_156, sX6_readItem_158, sX6_readItem_161, sX6_readItem_162, sX6_readItem_163, sX6_readItem_166, opK_some, guK_true, calK_some, rk_nil, rk_int, rk_ref, tl_some, tl_none, nb_int, nb_0, nb_1, nb_if, nb_if', q130, c1, zero_eq, if_true]
  · refine ⟨v, M2, ?_, l, s, hv⟩
    rw [sX6_readItem_86]
    simp only [sX6_readItem_0, sX6_readItem_1, sX6_readItem_4, sX6_readItem_5, sX6_readItem_6, sX6_readItem_9, sX6_readItem_10, sX6_readItem_11, sX6_readItem_14, sX6_readItem_16, sX6_readItem_19, sX6_readItem_20, sX6_readItem_23, sX6_readItem_24, sX6_readItem_27, sX6_readItem_28, sX6_readItem_28_i, sX6_readItem_29, sX6_readItem_32, sX6_readItem_33, sX6_readItem_34, sX6_readItem_37, sX6_readItem_38, sX6_readItem_41, sX6_readItem_44, sX6_readItem_47, sX6_readItem_48, sX6_readItem_49, sX6_readItem_51, sX6_readItem_54, sX6_readItem_57, sX6_readItem_58, sX6_readItem_59, sX6_readItem_60, sX6_readItem_63, sX6_readItem_66, sX6_readItem_69, sX6_readItem_70, sX6_readItem_71, sX6_readItem_73, sX6_readItem_76, sX6_readItem_79, sX6_readItem_81, sX6_readItem_82, sX6_readItem_83, sX6_readItem_84, sX6_readItem_85, sX6_readItem_86, sX6_readItem_87, sX6_readItem_90, sX6_readItem_93, sX6_readItem_96, sX6_readItem_97, sX6_readItem_98, sX6_readItem_99, sX6_readItem_102, sX6_readItem_105, sX6_readItem_109, sX6_readItem_112, sX6_readItem_113, sX6_readItem_116, sX6_readItem_119, sX6_readItem_122, sX6_readItem_123, sX6_readItem_125, sX6_readItem_126, sX6_readItem_127, sX6_readItem_129, sX6_readItem_132, sX6_readItem_133, sX6_readItem_134, sX6_readItem_137, sX6_readItem_140, sX6_readItem_141, sX6_readItem_142, sX6_readItem_145, sX6_readItem_148, sX6_readItem_151, sX6_readItem_152, sX6_readItem_154, sX6_readItem_155, sX6_readItem_156, sX6_readItem_158, sX6_readItem_161, sX6_readItem_162, sX6_readItem_163, sX6_readItem_166, opK_some, guK_true, calK_some, rk_nil, rk_int, rk_ref, tl_some, tl_none, nb_int, nb_0, nb_1, nb_if, nb_if', q130, c1, c2, one_ne, if_false]
abbrev kN1 (S V : Nat → Int32) (i : Nat) (r : Rw) : Bool × Nat × Int32 := pN S V (decide (r 3 < 10)) 7 1 9 (if r 3 < 10 then i + 1 else i) 2
abbrev kN2 (S V : Nat → Int32) (i : Nat) (r : Rw) : Bool × Nat × Int32 := pN S V (kN1 S V i r).1 8 0 99 (kN1 S V i r).2.1 10
abbrev kN3 (S V : Nat → Int32) (i : Nat) (r : Rw) : Bool × Nat × Int32 := pN S V (kN2 S V i r).1 9 0 1 (kN2 S V i r).2.1 0
theorem pN_t {S V : Nat → Int32} {b : Bool} {w lo hi x : Int32} {i : Nat} (h : b = true) : pN S V b w lo hi i x = ptP S V w lo hi i x := if_pos h
theorem pN_f {S V : Nat → Int32} {b : Bool} {w lo hi x : Int32} {i : Nat} (h : ¬ b = true) : pN S V b w lo hi i x = (false, i, x) := if_neg h
theorem no_tt {i : Nat} {α : Type} {x : α} : ¬ ((false, i, x) : Bool × Nat × α).1 = true := by
  show ¬ false = true
  decide
theorem piK_pN {S V : Nat → Int32} {i : Nat} {r : Rw} : (piK S V i r).1 = (kN3 S V i r).1 ∧ (piK S V i r).2.1 = (kN3 S V i r).2.1 ∧ ((kN3 S V i r).1 = true → r 3 < 10 ∧ (kN1 S V i r).1 = true ∧ (kN2 S V i r).1 = true ∧ (piK S V i r).2.2 = comR r (V i) (kN1 S V i r).2.2 (kN2 S V i r).2.2 (kN3 S V i r).2.2) := by
  by_cases c : r 3 < 10
  · have nr : ¬ ¬ r 3 < 10 := fun z => z c
    have e1 : kN1 S V i r = pB S V i := by
      show pN S V (decide (r 3 < 10)) 7 1 9 (if r 3 < 10 then i + 1 else i) 2 = _
      rw [pN_t (decide_eq_true c), if_pos c]
    by_cases k1 : (pB S V i).1 = true
    · have n1 : ¬ ¬ (pB S V i).1 = true := fun z => z k1
      have e2 : kN2 S V i r = pW S V i := by
        show pN S V (kN1 S V i r).1 8 0 99 (kN1 S V i r).2.1 10 = _
        rw [e1, pN_t k1]
      by_cases k2 : (pW S V i).1 = true
      · have n2 : ¬ ¬ (pW S V i).1 = true := fun z => z k2
        have e3 : kN3 S V i r = pO S V i := by
          show pN S V (kN2 S V i r).1 9 0 1 (kN2 S V i r).2.1 0 = _
          rw [e2, pN_t k2]
        rw [e3, e2, e1]
        by_cases k3 : (pO S V i).1 = true
        · have n3 : ¬ ¬ (pO S V i).1 = true := fun z => z k3
          have ek : piK S V i r = (true, (pO S V i).2.1, comR r (V i) (pB S V i).2.2 (pW S V i).2.2 (pO S V i).2.2) := by
            unfold piK
            rw [if_neg nr, if_neg n1, if_neg n2, if_neg n3]
          rw [ek]
          exact ⟨k3.symm, rfl, fun _ => ⟨c, k1, k2, rfl⟩⟩
        · have ek : piK S V i r = (false, (pO S V i).2.1, r) := by
            unfold piK
            rw [if_neg nr, if_neg n1, if_neg n2, if_pos k3]
          rw [ek]
          exact ⟨(Bool.eq_false_iff.mpr k3).symm, rfl, fun z => absurd z k3⟩
      · have e3 : kN3 S V i r = (false, (pW S V i).2.1, 0) := by
          show pN S V (kN2 S V i r).1 9 0 1 (kN2 S V i r).2.1 0 = _
          rw [e2, pN_f k2]
        have ek : piK S V i r = (false, (pW S V i).2.1, r) := by
          unfold piK
          rw [if_neg nr, if_neg n1, if_pos k2]
        rw [e3, ek]
        exact ⟨rfl, rfl, fun z => absurd z no_tt⟩
    · have e2 : kN2 S V i r = (false, (pB S V i).2.1, 10) := by
        show pN S V (kN1 S V i r).1 8 0 99 (kN1 S V i r).2.1 10 = _
        rw [e1, pN_f k1]
      have e3 : kN3 S V i r = (false, (pB S V i).2.1, 0) := by
        show pN S V (kN2 S V i r).1 9 0 1 (kN2 S V i r).2.1 0 = _
        rw [e2, pN_f no_tt]
      have ek : piK S V i r = (false, (pB S V i).2.1, r) := by
        unfold piK
        rw [if_neg nr, if_pos k1]
      rw [e3, ek]
      exact ⟨rfl, rfl, fun z => absurd z no_tt⟩
  · have e1 : kN1 S V i r = (false, i, 2) := by
      show pN S V (decide (r 3 < 10)) 7 1 9 (if r 3 < 10 then i + 1 else i) 2 = _
      rw [pN_f (fun z => c (of_decide_eq_true z)), if_neg c]
    have e2 : kN2 S V i r = (false, i, 10) := by
      show pN S V (kN1 S V i r).1 8 0 99 (kN1 S V i r).2.1 10 = _
      rw [e1, pN_f no_tt]
    have e3 : kN3 S V i r = (false, i, 0) := by
      show pN S V (kN2 S V i r).1 9 0 1 (kN2 S V i r).2.1 0 = _
      rw [e2, pN_f no_tt]
    have ek : piK S V i r = (false, i, r) := by
      unfold piK
      rw [if_pos c]
    rw [e3, ek]
    exact ⟨rfl, rfl, fun z => absurd z no_tt⟩
def RdI (B : Nat → Int32) (Z i c : Nat) (r : Rw) (p : Bool × Nat × Rw) (M M' : Mem) : Prop := Lw M M' ∧ M' 130 25 = nI (c + 1) ∧ (∀ j, j < 4 * c → M' 140 j = M 140 j) ∧ (p.1 = true → Ok B Z p.2.1 M' ∧ M' 130 26 = p.2.2 3 ∧ efI (M' 140 (4 * c)) (M' 140 (4 * c + 1)) (M' 140 (4 * c + 2)) (M' 140 (4 * c + 3)) r = p.2.2 ∧ (M' 140 (4 * c) = 10 ∨ M' 140 (4 * c) = 11 ∨ r 3 < 10)) ∧ (p.1 = false → Wr B Z p.2.1 M')
theorem C_readItem {d i c Z : Nat} {B : Nat → Int32} {M : Mem} {r : Rw} (hZ : Z ≤ 120) (hB : ∀ i, i < Z → rg (B i) 255) (ok : Ok B Z i M) (e26 : M 130 26 = r 3) (e25 : M 130 25 = nI c) (hc : c < 120) : ∃ M', call (d + 7) 223 [.ref 130] M = some (none, M') ∧ RdI B Z i c r (piT (qS B Z) (qV B Z) i r) M M' := by
  have ck := C_kindTold (d := d) hZ ok.1
  rw [show d + 7 = d + 6 + 1 from rfl, nX6_readItem]
  by_cases c1 : qS B Z i = 1 ∧ 0 ≤ qV B Z i ∧ qV B Z i ≤ 6
  · rw [if_pos c1] at ck
    have hn : ¬ qV B Z i < 0 := Int32.not_lt.mpr c1.2.1
    have eT : piT (qS B Z) (qV B Z) i r = piK (qS B Z) (qV B Z) i r := by
      unfold piT
      rw [if_pos c1]
    have mm : ∃ M1, lim (call (d + 6)) none 6 cX6_readItem none 9 [some (.ref 130), some (.int (qV B Z i)), none, none] [] M = lim (call (d + 6)) none 6 cX6_readItem none 27 [some (.ref 130), some (.int (qV B Z i)), none, none] [] M1 ∧ Sd B Z (decide (r 3 < 10)) (if r 3 < 10 then i + 1 else i) M1 ∧ Lu M M1 := by
      by_cases c3 : r 3 < 10
      · obtain ⟨M1, cm, ok1, l1⟩ := C_must1 (d := d + 3) hZ hB ok
        rw [show d + 3 + 3 = d + 6 from rfl] at cm
        refine ⟨M1, ?_, ⟨fun _ => by rw [if_pos c3]; exact ok1, fun z => absurd c3 (of_decide_eq_false z)⟩, l1⟩
        rw [sX6_readItem_9]
        simp only [sX6_readItem_0, sX6_readItem_1, sX6_readItem_4, sX6_readItem_5, sX6_readItem_6, sX6_readItem_9, sX6_readItem_10, sX6_readItem_11, sX6_readItem_14, sX6_readItem_16, sX6_readItem_19, sX6_readItem_20, sX6_readItem_23, sX6_readItem_24, sX6_readItem_28, sX6_readItem_28_i, sX6_readItem_29, sX6_readItem_32, sX6_readItem_33, sX6_readItem_34, sX6_readItem_37, sX6_readItem_38, sX6_readItem_41, sX6_readItem_44, sX6_readItem_47, sX6_readItem_48, sX6_readItem_49, sX6_readItem_51, sX6_readItem_54, sX6_readItem_57, sX6_readItem_58, sX6_readItem_59, sX6_readItem_60, sX6_readItem_63, sX6_readItem_66, sX6_readItem_69, sX6_readItem_70, sX6_readItem_71, sX6_readItem_73, sX6_readItem_76, sX6_readItem_79, sX6_readItem_81, sX6_readItem_82, sX6_readItem_83, sX6_readItem_84, sX6_readItem_85, sX6_readItem_86, sX6_readItem_87, sX6_readItem_90, sX6_readItem_93, sX6_readItem_96, sX6_readItem_97, sX6_readItem_98, sX6_readItem_99, sX6_readItem_102, sX6_readItem_105, sX6_readItem_106, sX6_readItem_109, sX6_readItem_112, sX6_readItem_113, sX6_readItem_116, sX6_readItem_119, sX6_readItem_122, sX6_readItem_123, sX6_readItem_125, sX6_readItem_126, sX6_readItem_127, sX6_readItem_129, sX6_readItem_132, sX6_readItem_133, sX6_readItem_134, sX6_readItem_137, sX6_readItem_140, sX6_readItem_141, sX6_readItem_142, sX6_readItem_145, sX6_readItem_148, sX6_readItem_151, sX6_readItem_152, sX6_readItem_154, sX6_readItem_155, sX6_readItem_156, sX6_readItem_158, sX6_readItem_161, sX6_readItem_162, sX6_readItem_163, sX6_readItem_166, opK_some, guK_true, calK_some, rk_nil, rk_int, rk_ref, tl_some, tl_none, nb_int, nb_0, nb_1, nb_if, nb_if', q130, o130_26, e26, cm, if_neg (show ¬ (10 : Int32) ≤ r 3 from Int32.not_le.mpr c3)]
      · obtain ⟨M1, cm, w1, l1⟩ := C_must0 (d := d + 3) (x := 0) (Or.inl ⟨ok.2, rfl⟩) ok.1.2.2.1
        rw [show d + 3 + 3 = d + 6 from rfl] at cm
        refine ⟨M1, ?_, ⟨fun z => absurd (of_decide_eq_true z) c3, fun _ => by rw [if_neg c3]; exact w1⟩, l1⟩
        rw [sX6_readItem_9]
        simp only [sX6_readItem_0, sX6_readItem_1, sX6_readItem_4, sX6_readItem_5, sX6_readItem_6, sX6_readItem_9, sX6_readItem_10, sX6_readItem_11, sX6_readItem_14, sX6_readItem_16, sX6_readItem_19, sX6_readItem_20, sX6_readItem_23, sX6_readItem_24, sX6_readItem_28, sX6_readItem_28_i, sX6_readItem_29, sX6_readItem_32, sX6_readItem_33, sX6_readItem_34, sX6_readItem_37, sX6_readItem_38, sX6_readItem_41, sX6_readItem_44, sX6_readItem_47, sX6_readItem_48, sX6_readItem_49, sX6_readItem_51, sX6_readItem_54, sX6_readItem_57, sX6_readItem_58, sX6_readItem_59, sX6_readItem_60, sX6_readItem_63, sX6_readItem_66, sX6_readItem_69, sX6_readItem_70, sX6_readItem_71, sX6_readItem_73, sX6_readItem_76, sX6_readItem_79, sX6_readItem_81, sX6_readItem_82, sX6_readItem_83, sX6_readItem_84, sX6_readItem_85, sX6_readItem_86, sX6_readItem_87, sX6_readItem_90, sX6_readItem_93, sX6_readItem_96, sX6_readItem_97, sX6_readItem_98, sX6_readItem_99, sX6_readItem_102, sX6_readItem_105, sX6_readItem_106, sX6_readItem_109, sX6_readItem_112, sX6_readItem_113, sX6_readItem_116, sX6_readItem_119, sX6_readItem_122, sX6_readItem_123, sX6_readItem_125, sX6_readItem_126, sX6_readItem_127, sX6_readItem_129, sX6_readItem_132, sX6_readItem_133, sX6_readItem_134, sX6_readItem_137, sX6_readItem_140, sX6_readItem_141, sX6_readItem_142, sX6_readItem_145, sX6_readItem_148, sX6_readItem_151, sX6_readItem_152, sX6_readItem_154, sX6_readItem_155, sX6_readItem_156, sX6_readItem_158, sX6_readItem_161, sX6_readItem_162, sX6_readItem_163, sX6_readItem_166, opK_some, guK_true, calK_some, rk_nil, rk_int, rk_ref, tl_some, tl_none, nb_int, nb_0, nb_1, nb_if, nb_if', q130, o130_26, e26, cm, if_pos (show (10 : Int32) ≤ r 3 from Int32.not_lt.mp c3)]
    obtain ⟨M1, g1, s1, l1⟩ := mm
    obtain ⟨M2, hM2⟩ : ∃ M2, M2 = mset M1 130 26 (r 3 + 1) := ⟨_, rfl⟩
    have f26 : M1 130 26 = r 3 := (l1.2 26 (by omega) (by omega) (by omega) (by omega) (by omega)).trans e26
    have s2 : Sd B Z (decide (r 3 < 10)) (if r 3 < 10 then i + 1 else i) M2 := s1.cg (by rw [hM2, mset_ne (by omega)]) (fun j h1 h2 => by rw [hM2, mset_at, upd_ne (by omega)])
    obtain ⟨v1, M3, g3, l3, s3, y3⟩ := L_blk1 (d := d) (k := qV B Z i) hZ hB s2
    obtain ⟨v2, M4, g4, l4, s4, y4⟩ := L_blk2 (d := d) (k := qV B Z i) (y := v1) hZ hB s3
    obtain ⟨v3, M5, g5, l5, s5, y5⟩ := L_blk3 (d := d) (k := qV B Z i) (y := v1) (z := v2) hZ hB s4
    have l12 : Lw M1 M2 := by rw [hM2]; exact Lw.m26
    have l25 : Lu M2 M5 := (l3.tr l4).tr l5
    have l05 : Lw M M5 := ((Lw.lu l1).tr l12).tr (Lw.lu l25)
    have h25 : M5 130 25 = nI c := by
      rw [l25.2 25 (by omega) (by omega) (by omega) (by omega) (by omega), hM2, mset_at, upd_ne (by omega), l1.2 25 (by omega) (by omega) (by omega) (by omega) (by omega)]
      exact e25
    have h26 : M5 130 26 = r 3 + 1 := by
      rw [l25.2 26 (by omega) (by omega) (by omega) (by omega) (by omega), hM2, mset_at, upd_at]
    have h140 : M5 140 = M 140 := by rw [l25.1 140 (by omega), hM2, mset_ne (by omega), l1.1 140 (by omega)]
    obtain ⟨M6, c6, l6, f6, a25, a26, aj, b0, b1, b2, b3⟩ := C_item (d := d + 6 - 1) (M := M5) (a := qV B Z i) (b := v1) (x := v2) (y := v3) hc h25
    rw [show d + 6 - 1 + 1 = d + 6 by omega] at c6
    simp only [sX6_readItem_0, sX6_readItem_1, sX6_readItem_4, sX6_readItem_5, sX6_readItem_6, sX6_readItem_10, sX6_readItem_11, sX6_readItem_14, sX6_readItem_16, sX6_readItem_19, sX6_readItem_20, sX6_readItem_23, sX6_readItem_24, sX6_readItem_28, sX6_readItem_28_i, sX6_readItem_29, sX6_readItem_32, sX6_readItem_33, sX6_readItem_34, sX6_readItem_38, sX6_readItem_41, sX6_readItem_44, sX6_readItem_47, sX6_readItem_48, sX6_readItem_49, sX6_readItem_51, sX6_readItem_54, sX6_readItem_57, sX6_readItem_58, sX6_readItem_60, sX6_readItem_63, sX6_readItem_66, sX6_readItem_69, sX6_readItem_70, sX6_readItem_71, sX6_readItem_73, sX6_readItem_76, sX6_readItem_79, sX6_readItem_81, sX6_readItem_82, sX6_readItem_83, sX6_readItem_84, sX6_readItem_85, sX6_readItem_87, sX6_readItem_90, sX6_readItem_93, sX6_readItem_96, sX6_readItem_97, sX6_readItem_98, sX6_readItem_99, sX6_readItem_102, sX6_readItem_105, sX6_readItem_109, sX6_readItem_112, sX6_readItem_113, sX6_readItem_116, sX6_readItem_119, sX6_readItem_122, sX6_readItem_123, sX6_readItem_125, sX6_readItem_126, sX6_readItem_127, sX6_readItem_129, sX6_readItem_132, sX6_readItem_133, sX6_readItem_134, sX6_readItem_137, sX6_readItem_140, sX6_readItem_141, sX6_readItem_142, sX6_readItem_145, sX6_readItem_148, sX6_readItem_151, sX6_readItem_152, sX6_readItem_154, sX6_readItem_155, sX6_readItem_156, sX6_readItem_158, sX6_readItem_161, sX6_readItem_162, sX6_readItem_163, sX6_readItem_166, opK_some, guK_true, calK_some, rk_nil, rk_int, rk_ref, tl_some, tl_none, nb_int, nb_0, nb_1, nb_if, nb_if', q130, ck, if_neg hn]
    rw [g1, sX6_readItem_27]
    simp only [sX6_readItem_0, sX6_readItem_1, sX6_readItem_4, sX6_readItem_5, sX6_readItem_6, sX6_readItem_10, sX6_readItem_11, sX6_readItem_14, sX6_readItem_16, sX6_readItem_19, sX6_readItem_20, sX6_readItem_23, sX6_readItem_24, sX6_readItem_28, sX6_readItem_28_i, sX6_readItem_29, sX6_readItem_32, sX6_readItem_33, sX6_readItem_34, sX6_readItem_38, sX6_readItem_41, sX6_readItem_44, sX6_readItem_47, sX6_readItem_48, sX6_readItem_49, sX6_readItem_51, sX6_readItem_54, sX6_readItem_57, sX6_readItem_58, sX6_readItem_60, sX6_readItem_63, sX6_readItem_66, sX6_readItem_69, sX6_readItem_70, sX6_readItem_71, sX6_readItem_73, sX6_readItem_76, sX6_readItem_79, sX6_readItem_81, sX6_readItem_82, sX6_readItem_83, sX6_readItem_84, sX6_readItem_85, sX6_readItem_87, sX6_readItem_90, sX6_readItem_93, sX6_readItem_96, sX6_readItem_97, sX6_readItem_98, sX6_readItem_99, sX6_readItem_102, sX6_readItem_105, sX6_readItem_109, sX6_readItem_112, sX6_readItem_113, sX6_readItem_116, sX6_readItem_119, sX6_readItem_122, sX6_readItem_123, sX6_readItem_125, sX6_readItem_126, sX6_readItem_127, sX6_readItem_129, sX6_readItem_132, sX6_readItem_133, sX6_readItem_134, sX6_readItem_137, sX6_readItem_140, sX6_readItem_141, sX6_readItem_142, sX6_readItem_145, sX6_readItem_148, sX6_readItem_151, sX6_readItem_152, sX6_readItem_154, sX6_readItem_155, sX6_readItem_156, sX6_readItem_158, sX6_readItem_161, sX6_readItem_162, sX6_readItem_163, sX6_readItem_166, opK_some, guK_true, calK_some, rk_nil, rk_int, rk_ref, tl_some, tl_none, nb_int, nb_0, nb_1, nb_if, nb_if', o130_26, p130_26, f26, ← hM2]
    rw [g3, g4]
    simp only [sX6_readItem_0, sX6_readItem_1, sX6_readItem_4, sX6_readItem_5, sX6_readItem_6, sX6_readItem_10, sX6_readItem_11, sX6_readItem_14, sX6_readItem_16, sX6_readItem_19, sX6_readItem_20, sX6_readItem_23, sX6_readItem_24, sX6_readItem_28, sX6_readItem_28_i, sX6_readItem_29, sX6_readItem_32, sX6_readItem_33, sX6_readItem_34, sX6_readItem_38, sX6_readItem_41, sX6_readItem_44, sX6_readItem_47, sX6_readItem_48, sX6_readItem_49, sX6_readItem_51, sX6_readItem_54, sX6_readItem_57, sX6_readItem_58, sX6_readItem_60, sX6_readItem_63, sX6_readItem_66, sX6_readItem_69, sX6_readItem_70, sX6_readItem_71, sX6_readItem_73, sX6_readItem_76, sX6_readItem_79, sX6_readItem_81, sX6_readItem_82, sX6_readItem_83, sX6_readItem_84, sX6_readItem_85, sX6_readItem_87, sX6_readItem_90, sX6_readItem_93, sX6_readItem_96, sX6_readItem_97, sX6_readItem_98, sX6_readItem_99, sX6_readItem_102, sX6_readItem_105, sX6_readItem_109, sX6_readItem_112, sX6_readItem_113, sX6_readItem_116, sX6_readItem_119, sX6_readItem_122, sX6_readItem_123, sX6_readItem_125, sX6_readItem_126, sX6_readItem_127, sX6_readItem_129, sX6_readItem_132, sX6_readItem_133, sX6_readItem_134, sX6_readItem_137, sX6_readItem_140, sX6_readItem_141, sX6_readItem_142, sX6_readItem_145, sX6_readItem_148, sX6_readItem_151, sX6_readItem_152, sX6_readItem_154, sX6_readItem_155, sX6_readItem_156, sX6_readItem_158, sX6_readItem_161, sX6_readItem_162, sX6_readItem_163, sX6_readItem_166, opK_some, guK_true, calK_some, rk_nil, rk_int, rk_ref, tl_some, tl_none, nb_int, nb_0, nb_1, nb_if, nb_if']
    rw [g5, sX6_readItem_106]
    simp only [sX6_readItem_0, sX6_readItem_1, sX6_readItem_4, sX6_readItem_5, sX6_readItem_6, sX6_readItem_10, sX6_readItem_11, sX6_readItem_14, sX6_readItem_16, sX6_readItem_19, sX6_readItem_20, sX6_readItem_23, sX6_readItem_24, sX6_readItem_28, sX6_readItem_28_i, sX6_readItem_29, sX6_readItem_32, sX6_readItem_33, sX6_readItem_34, sX6_readItem_38, sX6_readItem_41, sX6_readItem_44, sX6_readItem_47, sX6_readItem_48, sX6_readItem_49, sX6_readItem_51, sX6_readItem_54, sX6_readItem_57, sX6_readItem_58, sX6_readItem_60, sX6_readItem_63, sX6_readItem_66, sX6_readItem_69, sX6_readItem_70, sX6_readItem_71, sX6_readItem_73, sX6_readItem_76, sX6_readItem_79, sX6_readItem_81, sX6_readItem_82, sX6_readItem_83, sX6_readItem_84, sX6_readItem_85, sX6_readItem_87, sX6_readItem_90, sX6_readItem_93, sX6_readItem_96, sX6_readItem_97, sX6_readItem_98, sX6_readItem_99, sX6_readItem_102, sX6_readItem_105, sX6_readItem_109, sX6_readItem_112, sX6_readItem_113, sX6_readItem_116, sX6_readItem_119, sX6_readItem_122, sX6_readItem_123, sX6_readItem_125, sX6_readItem_126, sX6_readItem_127, sX6_readItem_129, sX6_readItem_132, sX6_readItem_133, sX6_readItem_134, sX6_readItem_137, sX6_readItem_140, sX6_readItem_141, sX6_readItem_142, sX6_readItem_145, sX6_readItem_148, sX6_readItem_151, sX6_readItem_152, sX6_readItem_154, sX6_readItem_155, sX6_readItem_156, sX6_readItem_158, sX6_readItem_161, sX6_readItem_162, sX6_readItem_163, sX6_readItem_166, opK_some, guK_true, calK_some, rk_nil, rk_int, rk_ref, tl_some, tl_none, nb_int, nb_0, nb_1, nb_if, nb_if', q130, c6]
    obtain ⟨p1, p2, p3⟩ := piK_pN (S := qS B Z) (V := qV B Z) (i := i) (r := r)
    refine ⟨M6, rfl, l05.tr l6, a25, fun j hj => (aj j hj).trans (by rw [h140]), ?_, ?_⟩
    · rw [eT]
      intro z
      rw [p1] at z
      obtain ⟨q0, q1, q2, q3⟩ := p3 z
      rw [p2, q3, b0, b1, b2, b3, y3 q1, y4 q2, y5 z, a26, h26]
      have n10 : ¬ qV B Z i = 10 := fun z => absurd (z ▸ c1.2.2) (by decide)
      have n11 : ¬ qV B Z i = 11 := fun z => absurd (z ▸ c1.2.2) (by decide)
      refine ⟨Ok_cg (s5.1 z) (l6.1 138 (by omega) (by omega)) f6, ?_, ?_, Or.inr (Or.inr q0)⟩
      · rw [com_j, if_pos rfl]
      · unfold efI
        rw [if_neg n10, if_neg n11]
    · rw [eT]
      intro z
      rw [p1] at z
      rw [p2]
      exact Wr_cg (s5.2 z) f6
  · rw [if_neg c1] at ck
    have hn : (-1 : Int32) < 0 := by decide
    have ca := C_isNext (d := d) (w := 10) hZ hB (by omega) ok
    rw [show 160 + 10 = 170 from rfl, show (nI 10 : Int32) = 10 from rfl] at ca
    have fin : ∀ (a v : Int32) (M1 : Mem), Lu M M1 → ∃ M', call (d + 6) 229 [.ref 130, .int a, .int v, .int 0, .int 0] M1 = some (none, M') ∧ Lw M M' ∧ (∀ j, 17 ≤ j → j ≤ 22 → M' 130 j = M1 130 j) ∧ M' 138 = M1 138 ∧ M' 130 25 = nI (c + 1) ∧ M' 130 26 = r 3 ∧ (∀ j, j < 4 * c → M' 140 j = M 140 j) ∧ M' 140 (4 * c) = a ∧ M' 140 (4 * c + 1) = v := by
      intro a v M1 l1
      obtain ⟨M6, c6, l6, f6, a25, a26, aj, b0, b1, b2, b3⟩ := C_item (d := d + 6 - 1) (M := M1) (a := a) (b := v) (x := 0) (y := 0) hc ((l1.2 25 (by omega) (by omega) (by omega) (by omega) (by omega)).trans e25)
      rw [show d + 6 - 1 + 1 = d + 6 by omega] at c6
      exact ⟨M6, c6, (Lw.lu l1).tr l6, f6, l6.1 138 (by omega) (by omega), a25, a26.trans ((l1.2 26 (by omega) (by omega) (by omega) (by omega) (by omega)).trans e26), fun j hj => (aj j hj).trans (by rw [l1.1 140 (by omega)]), b0, b1⟩
    by_cases c2 : qS B Z i = 1 ∧ qV B Z i = 10
    · have eT : piT (qS B Z) (qV B Z) i r = piR (qS B Z) (qV B Z) 1 40 1 i r := by
        unfold piT
        rw [if_neg c1, if_pos c2]
      obtain ⟨M1, g1, ok1, l1⟩ := ca.1 c2
      have cn := C_m_number (d := d + 2) (lo := 1) (hi := 40) hZ hB ok1
      rw [show d + 2 + 4 = d + 6 from rfl] at cn
      by_cases n : nuP (qS B Z) (qV B Z) 1 40 (i + 1)
      · obtain ⟨M2, g2, ok2, l2⟩ := cn.1 n
        obtain ⟨M3, g3, l3, f3, f38, a25, a26, aj, b0, b1⟩ := fin 10 (qV B Z (i + 1)) M2 (l1.tr l2)
        have eR : piR (qS B Z) (qV B Z) 1 40 1 i r = (true, i + 2, upd r 1 (qV B Z (i + 1))) := by
          unfold piR
          rw [if_pos n]
        simp only [sX6_readItem_0, sX6_readItem_1, sX6_readItem_4, sX6_readItem_5, sX6_readItem_6, sX6_readItem_9, sX6_readItem_10, sX6_readItem_11, sX6_readItem_14, sX6_readItem_16, sX6_readItem_19, sX6_readItem_20, sX6_readItem_23, sX6_readItem_24, sX6_readItem_27, sX6_readItem_28, sX6_readItem_28_i, sX6_readItem_29, sX6_readItem_32, sX6_readItem_33, sX6_readItem_34, sX6_readItem_37, sX6_readItem_38, sX6_readItem_41, sX6_readItem_44, sX6_readItem_47, sX6_readItem_48, sX6_readItem_49, sX6_readItem_51, sX6_readItem_54, sX6_readItem_57, sX6_readItem_58, sX6_readItem_59, sX6_readItem_60, sX6_readItem_63, sX6_readItem_66, sX6_readItem_69, sX6_readItem_70, sX6_readItem_71, sX6_readItem_73, sX6_readItem_76, sX6_readItem_79, sX6_readItem_81, sX6_readItem_82, sX6_readItem_83, sX6_readItem_84, sX6_readItem_85, sX6_readItem_86, sX6_readItem_87, sX6_readItem_90, sX6_readItem_93, sX6_readItem_96, sX6_readItem_97, sX6_readItem_98, sX6_readItem_99, sX6_readItem_102, sX6_readItem_105, sX6_readItem_106, sX6_readItem_109, sX6_readItem_112, sX6_readItem_113, sX6_readItem_116, sX6_readItem_119, sX6_readItem_122, sX6_readItem_123, sX6_readItem_125, sX6_readItem_126, sX6_readItem_127, sX6_readItem_129, sX6_readItem_132, sX6_readItem_133, sX6_readItem_134, sX6_readItem_137, sX6_readItem_140, sX6_readItem_141, sX6_readItem_142, sX6_readItem_145, sX6_readItem_148, sX6_readItem_151, sX6_readItem_152, sX6_readItem_154, sX6_readItem_155, sX6_readItem_156, sX6_readItem_158, sX6_readItem_161, sX6_readItem_162, sX6_readItem_163, sX6_readItem_166, opK_some, guK_true, calK_some, rk_nil, rk_int, rk_ref, tl_some, tl_none, nb_int, nb_0, nb_1, nb_if, nb_if', q130, ck, if_pos hn, g1, one_ne, if_false, g2, g3]
        rw [eT, eR]
        refine ⟨M3, rfl, l3, a25, aj, fun _ => ⟨Ok_cg ok2 f38 f3, ?_, ?_, Or.inl b0⟩, fun z => absurd (show true = false from z) (by decide)⟩
        · show _ = upd r 1 (qV B Z (i + 1)) 3
          rw [a26, upd_ne (by omega)]
        · rw [b0, b1]
          unfold efI
          rw [if_pos rfl]
      · obtain ⟨v, M2, g2, w2, l2⟩ := cn.2 n
        obtain ⟨M3, g3, l3, f3, f38, a25, a26, aj, b0, b1⟩ := fin 10 v M2 (l1.tr l2)
        have eR : piR (qS B Z) (qV B Z) 1 40 1 i r = (false, i + 1, r) := by
          unfold piR
          rw [if_neg n]
        simp only [sX6_readItem_0, sX6_readItem_1, sX6_readItem_4, sX6_readItem_5, sX6_readItem_6, sX6_readItem_9, sX6_readItem_10, sX6_readItem_11, sX6_readItem_14, sX6_readItem_16, sX6_readItem_19, sX6_readItem_20, sX6_readItem_23, sX6_readItem_24, sX6_readItem_27, sX6_readItem_28, sX6_readItem_28_i, sX6_readItem_29, sX6_readItem_32, sX6_readItem_33, sX6_readItem_34, sX6_readItem_37, sX6_readItem_38, sX6_readItem_41, sX6_readItem_44, sX6_readItem_47, sX6_readItem_48, sX6_readItem_49, sX6_readItem_51, sX6_readItem_54, sX6_readItem_57, sX6_readItem_58, sX6_readItem_59, sX6_readItem_60, sX6_readItem_63, sX6_readItem_66, sX6_readItem_69, sX6_readItem_70, sX6_readItem_71, sX6_readItem_73, sX6_readItem_76, sX6_readItem_79, sX6_readItem_81, sX6_readItem_82, sX6_readItem_83, sX6_readItem_84, sX6_readItem_85, sX6_readItem_86, sX6_readItem_87, sX6_readItem_90, sX6_readItem_93, sX6_readItem_96, sX6_readItem_97, sX6_readItem_98, sX6_readItem_99, sX6_readItem_102, sX6_readItem_105, sX6_readItem_106, sX6_readItem_109, sX6_readItem_112, sX6_readItem_113, sX6_readItem_116, sX6_readItem_119, sX6_readItem_122, sX6_readItem_123, sX6_readItem_125, sX6_readItem_126, sX6_readItem_127, sX6_readItem_129, sX6_readItem_132, sX6_readItem_133, sX6_readItem_134, sX6_readItem_137, sX6_readItem_140, sX6_readItem_141, sX6_readItem_142, sX6_readItem_145, sX6_readItem_148, sX6_readItem_151, sX6_readItem_152, sX6_readItem_154, sX6_readItem_155, sX6_readItem_156, sX6_readItem_158, sX6_readItem_161, sX6_readItem_162, sX6_readItem_163, sX6_readItem_166, opK_some, guK_true, calK_some, rk_nil, rk_int, rk_ref, tl_some, tl_none, nb_int, nb_0, nb_1, nb_if, nb_if', q130, ck, if_pos hn, g1, one_ne, if_false, g2, g3]
        rw [eT, eR]
        exact ⟨M3, rfl, l3, a25, aj, fun z => absurd z no_tt, fun _ => Wr_cg w2 f3⟩
    · have g1 := ca.2 c2
      have cw := C_m_isWord (d := d + 1) (w := 11) hZ (by omega) ok.1
      rw [show 160 + 11 = 171 from rfl, show (nI 11 : Int32) = 11 from rfl, show d + 1 + 5 = d + 6 from rfl] at cw
      by_cases c4 : qS B Z i = 1 ∧ qV B Z i = 11
      · have eT : piT (qS B Z) (qV B Z) i r = piR (qS B Z) (qV B Z) 0 9 2 i r := by
          unfold piT
          rw [if_neg c1, if_neg c2, if_pos c4]
        obtain ⟨M1, gm, ok1, l1⟩ := C_must1 (d := d + 3) hZ hB ok
        rw [show d + 3 + 3 = d + 6 from rfl] at gm
        have cn := C_m_number (d := d + 2) (lo := 0) (hi := 9) hZ hB ok1
        rw [show d + 2 + 4 = d + 6 from rfl] at cn
        rw [if_pos c4] at cw
        by_cases n : nuP (qS B Z) (qV B Z) 0 9 (i + 1)
        · obtain ⟨M2, g2, ok2, l2⟩ := cn.1 n
          obtain ⟨M3, g3, l3, f3, f38, a25, a26, aj, b0, b1⟩ := fin 11 (qV B Z (i + 1)) M2 (l1.tr l2)
          have eR : piR (qS B Z) (qV B Z) 0 9 2 i r = (true, i + 2, upd r 2 (qV B Z (i + 1))) := by
            unfold piR
            rw [if_pos n]
          simp only [sX6_readItem_0, sX6_readItem_1, sX6_readItem_4, sX6_readItem_5, sX6_readItem_6, sX6_readItem_9, sX6_readItem_10, sX6_readItem_11, sX6_readItem_14, sX6_readItem_16, sX6_readItem_19, sX6_readItem_20, sX6_readItem_23, sX6_readItem_24, sX6_readItem_27, sX6_readItem_28, sX6_readItem_28_i, sX6_readItem_29, sX6_readItem_32, sX6_readItem_33, sX6_readItem_34, sX6_readItem_37, sX6_readItem_38, sX6_readItem_41, sX6_readItem_44, sX6_readItem_47, sX6_readItem_48, sX6_readItem_49, sX6_readItem_51, sX6_readItem_54, sX6_readItem_57, sX6_readItem_58, sX6_readItem_59, sX6_readItem_60, sX6_readItem_63, sX6_readItem_66, sX6_readItem_69, sX6_readItem_70, sX6_readItem_71, sX6_readItem_73, sX6_readItem_76, sX6_readItem_79, sX6_readItem_81, sX6_readItem_82, sX6_readItem_83, sX6_readItem_84, sX6_readItem_85, sX6_readItem_86, sX6_readItem_87, sX6_readItem_90, sX6_readItem_93, sX6_readItem_96, sX6_readItem_97, sX6_readItem_98, sX6_readItem_99, sX6_readItem_102, sX6_readItem_105, sX6_readItem_106, sX6_readItem_109, sX6_readItem_112, sX6_readItem_113, sX6_readItem_116, sX6_readItem_119, sX6_readItem_122, sX6_readItem_123, sX6_readItem_125, sX6_readItem_126, sX6_readItem_127, sX6_readItem_129, sX6_readItem_132, sX6_readItem_133, sX6_readItem_134, sX6_readItem_137, sX6_readItem_140, sX6_readItem_141, sX6_readItem_142, sX6_readItem_145, sX6_readItem_148, sX6_readItem_151, sX6_readItem_152, sX6_readItem_154, sX6_readItem_155, sX6_readItem_156, sX6_readItem_158, sX6_readItem_161, sX6_readItem_162, sX6_readItem_163, sX6_readItem_166, opK_some, guK_true, calK_some, rk_nil, rk_int, rk_ref, tl_some, tl_none, nb_int, nb_0, nb_1, nb_if, nb_if', q130, ck, if_pos hn, g1, zero_eq, if_true, cw, gm, g2, g3]
          rw [eT, eR]
          refine ⟨M3, rfl, l3, a25, aj, fun _ => ⟨Ok_cg ok2 f38 f3, ?_, ?_, Or.inr (Or.inl b0)⟩, fun z => absurd (show true = false from z) (by decide)⟩
          · show _ = upd r 2 (qV B Z (i + 1)) 3
            rw [a26, upd_ne (by omega)]
          · rw [b0, b1]
            unfold efI
            rw [if_neg (by decide), if_pos rfl]
        · obtain ⟨v, M2, g2, w2, l2⟩ := cn.2 n
          obtain ⟨M3, g3, l3, f3, f38, a25, a26, aj, b0, b1⟩ := fin 11 v M2 (l1.tr l2)
          have eR : piR (qS B Z) (qV B Z) 0 9 2 i r = (false, i + 1, r) := by
            unfold piR
            rw [if_neg n]
          simp only [sX6_readItem_0, sX6_readItem_1, sX6_readItem_4, sX6_readItem_5, sX6_readItem_6, sX6_readItem_9, sX6_readItem_10, sX6_readItem_11, sX6_readItem_14, sX6_readItem_16, sX6_readItem_19, sX6_readItem_20, sX6_readItem_23, sX6_readItem_24, sX6_readItem_27, sX6_readItem_28, sX6_readItem_28_i, sX6_readItem_29, sX6_readItem_32, sX6_readItem_33, sX6_readItem_34, sX6_readItem_37, sX6_readItem_38, sX6_readItem_41, sX6_readItem_44, sX6_readItem_47, sX6_readItem_48, sX6_readItem_49, sX6_readItem_51, sX6_readItem_54, sX6_readItem_57, sX6_readItem_58, sX6_readItem_59, sX6_readItem_60, sX6_readItem_63, sX6_readItem_66, sX6_readItem_69, sX6_readItem_70, sX6_readItem_71, sX6_readItem_73, sX6_readItem_76, sX6_readItem_79, sX6_readItem_81, sX6_readItem_82, sX6_readItem_83, sX6_readItem_84, sX6_readItem_85, sX6_readItem_86, sX6_readItem_87, sX6_readItem_90, sX6_readItem_93, sX6_readItem_96, sX6_readItem_97, sX6_readItem_98, sX6_readItem_99, sX6_readItem_102, sX6_readItem_105, sX6_readItem_106, sX6_readItem_109, sX6_readItem_112, sX6_readItem_113, sX6_readItem_116, sX6_readItem_119, sX6_readItem_122, sX6_readItem_123, sX6_readItem_125, sX6_readItem_126, sX6_readItem_127, sX6_readItem_129, sX6_readItem_132, sX6_readItem_133, sX6_readItem_134, sX6_readItem_137, sX6_readItem_140, sX6_readItem_141, sX6_readItem_142, sX6_readItem_145, sX6_readItem_148, sX6_readItem_151, sX6_readItem_152, sX6_readItem_154, sX6_readItem_155, sX6_readItem_156, sX6_readItem_158, sX6_readItem_161, sX6_readItem_162, sX6_readItem_163, sX6_readItem_166, opK_some, guK_true, calK_some, rk_nil, rk_int, rk_ref, tl_some, tl_none, nb_int, nb_0, nb_1, nb_if, nb_if', q130, ck, if_pos hn, g1, zero_eq, if_true, cw, gm, g2, g3]
          rw [eT, eR]
          exact ⟨M3, rfl, l3, a25, aj, fun z => absurd z no_tt, fun _ => Wr_cg w2 f3⟩
      · have eT : piT (qS B Z) (qV B Z) i r = (false, i, r) := by
          unfold piT
          rw [if_neg c1, if_neg c2, if_neg c4]
        obtain ⟨M1, gm, w1, l1⟩ := C_must0 (d := d + 3) (x := 0) (Or.inl ⟨ok.2, rfl⟩) ok.1.2.2.1
        rw [show d + 3 + 3 = d + 6 from rfl] at gm
        obtain ⟨v, M2, g2, w2, l2⟩ := C_w_number (d := d + 2) (lo := 0) (hi := 9) w1
        rw [show d + 2 + 4 = d + 6 from rfl] at g2
        obtain ⟨M3, g3, l3, f3, f38, a25, a26, aj, b0, b1⟩ := fin 11 v M2 (l1.tr l2)
        rw [if_neg c4] at cw
        simp only [sX6_readItem_0, sX6_readItem_1, sX6_readItem_4, sX6_readItem_5, sX6_readItem_6, sX6_readItem_9, sX6_readItem_10, sX6_readItem_11, sX6_readItem_14, sX6_readItem_16, sX6_readItem_19, sX6_readItem_20, sX6_readItem_23, sX6_readItem_24, sX6_readItem_27, sX6_readItem_28, sX6_readItem_28_i, sX6_readItem_29, sX6_readItem_32, sX6_readItem_33, sX6_readItem_34, sX6_readItem_37, sX6_readItem_38, sX6_readItem_41, sX6_readItem_44, sX6_readItem_47, sX6_readItem_48, sX6_readItem_49, sX6_readItem_51, sX6_readItem_54, sX6_readItem_57, sX6_readItem_58, sX6_readItem_59, sX6_readItem_60, sX6_readItem_63, sX6_readItem_66, sX6_readItem_69, sX6_readItem_70, sX6_readItem_71, sX6_readItem_73, sX6_readItem_76, sX6_readItem_79, sX6_readItem_81, sX6_readItem_82, sX6_readItem_83, sX6_readItem_84, sX6_readItem_85, sX6_readItem_86, sX6_readItem_87, sX6_readItem_90, sX6_readItem_93, sX6_readItem_96, sX6_readItem_97, sX6_readItem_98, sX6_readItem_99, sX6_readItem_102, sX6_readItem_105, sX6_readItem_106, sX6_readItem_109, sX6_readItem_112, sX6_readItem_113, sX6_readItem_116, sX6_readItem_119, sX6_readItem_122, sX6_readItem_123, sX6_readItem_125, sX6_readItem_126, sX6_readItem_127, sX6_readItem_129, sX6_readItem_132, sX6_readItem_133, sX6_readItem_134, sX6_readItem_137, sX6_readItem_140, sX6_readItem_141, sX6_readItem_142, sX6_readItem_145, sX6_readItem_148, sX6_readItem_151, sX6_readItem_152, sX6_readItem_154, sX6_readItem_155, sX6_readItem_156, sX6_readItem_158, sX6_readItem_161, sX6_readItem_162, sX6_readItem_163, sX6_readItem_166, opK_some, guK_true, calK_some, rk_nil, rk_int, rk_ref, tl_some, tl_none, nb_int, nb_0, nb_1, nb_if, nb_if', q130, ck, if_pos hn, g1, zero_eq, if_true, cw, gm, g2, g3]
        rw [eT]
        exact ⟨M3, rfl, l3, a25, aj, fun z => absurd z no_tt, fun _ => Wr_cg w2 f3⟩
