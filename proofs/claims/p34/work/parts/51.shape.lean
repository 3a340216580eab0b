/-! THE SHAPE of the class's cells (by program, wip/safe.py) -/
def SX : List gSp := [.inr (9, [.inl 1, .inl 3, .inl 11, .inl 19, .inl 24, .inl 43, .inl 54]), .inr (6, [.inl 2, .inr (0, 900)]), .inl (2, 900, -128, 127), .inr (1, [.inl 4, .inl 5, .inl 6, .inl 7, .inl 8, .inl 9, .inl 10, .inr (0, 8), .inr (-2147483648, 2147483647), .inr (0, 60), .inr (-2147483648, 2147483647), .inr (-2147483648, 2147483647), .inr (0, 1)]), .inl (0, 8, -2147483648, 2147483647), .inl (0, 64, -2147483648, 2147483647), .inl (0, 60, -2147483648, 2147483647), .inl (0, 60, -2147483648, 2147483647), .inl (0, 60, 0, 39), .inl (0, 60, -2, 39), .inl (0, 60, -2147483648, 2147483647), .inr (1, [.inl 12, .inl 13, .inl 14, .inl 15, .inl 16, .inl 17, .inl 18, .inr (0, 8), .inr (-2147483648, 2147483647), .inr (0, 60), .inr (-2147483648, 2147483647), .inr (-2147483648, 2147483647), .inr (0, 1)]), .inl (0, 8, -2147483648, 2147483647), .inl (0, 64, -2147483648, 2147483647), .inl (0, 60, -2147483648, 2147483647), .inl (0, 60, -2147483648, 2147483647), .inl (0, 60, 0, 39), .inl (0, 60, -2, 39), .inl (0, 60, -2147483648, 2147483647), .inr (4, [.inl 20, .inl 11, .inr (0, 900), .inr (-2147483648, 2147483647), .inr (-2147483648, 2147483647), .inr (-2147483648, 2147483647), .inr (-2147483648, 2147483647), .inr (-2147483648, 2147483647)]), .inr (7, [.inl 21, .inl 22, .inl 23, .inl 1, .inr (0, 901), .inr (0, 900), .inr (0, 900), .inr (-2147483648, 2147483647)]), .inl (0, 901, -2147483648, 2147483647), .inl (0, 901, -2147483648, 2147483647), .inl (0, 901, -2147483648, 2147483647), .inr (5, [.inl 25, .inl 28, .inl 35, .inl 42, .inl 3]), .inr (2, [.inl 26, .inl 27, .inr (0, 60)]), .inl (0, 60, -2147483648, 2147483647), .inl (0, 60, 0, 59), .inr (8, [.inl 29, .inl 30, .inl 31, .inl 32, .inl 33, .inl 34]), .inl (0, 40, -2147483648, 2147483647), .inl (0, 40, -5, 39), .inl (0, 40, -2147483648, 2147483647), .inl (0, 40, -2147483648, 2147483647), .inl (0, 40, -2147483648, 2147483647), .inl (0, 40, -2147483648, 2147483647), .inr (8, [.inl 36, .inl 37, .inl 38, .inl 39, .inl 40, .inl 41]), .inl (0, 40, -2147483648, 2147483647), .inl (0, 40, -5, 39), .inl (0, 40, -2147483648, 2147483647), .inl (0, 40, -2147483648, 2147483647), .inl (0, 40, -2147483648, 2147483647), .inl (0, 40, -2147483648, 2147483647), .inl (0, 60, -2147483648, 2147483647), .inr (3, [.inl 44, .inl 51, .inl 24, .inl 3, .inr (-2147483648, 2147483647), .inr (-2147483648, 2147483647), .inr (-2147483648, 2147483647)]), .inr (8, [.inl 45, .inl 46, .inl 47, .inl 48, .inl 49, .inl 50]), .inl (0, 40, -2147483648, 2147483647), .inl (0, 40, -5, 39), .inl (0, 40, -2147483648, 2147483647), .inl (0, 40, -2147483648, 2147483647), .inl (0, 40, -2147483648, 2147483647), .inl (0, 40, -2147483648, 2147483647), .inr (2, [.inl 52, .inl 53, .inr (0, 60)]), .inl (0, 60, -2147483648, 2147483647), .inl (0, 60, 0, 59), .inr (0, [.inl 55, .inl 62, .inl 69, .inl 3, .inl 25, .inr (0, 1), .inr (0, 1), .inr (-2147483648, 2147483647), .inr (-2147483648, 2147483647), .inr (-2147483648, 2147483647), .inr (-2147483648, 2147483647), .inr (-2147483648, 2147483647)]), .inr (8, [.inl 56, .inl 57, .inl 58, .inl 59, .inl 60, .inl 61]), .inl (0, 40, -2147483648, 2147483647), .inl (0, 40, -5, 39), .inl (0, 40, -2147483648, 2147483647), .inl (0, 40, -2147483648, 2147483647), .inl (0, 40, -2147483648, 2147483647), .inl (0, 40, -2147483648, 2147483647), .inr (8, [.inl 63, .inl 64, .inl 65, .inl 66, .inl 67, .inl 68]), .inl (0, 40, -2147483648, 2147483647), .inl (0, 40, -5, 39), .inl (0, 40, -2147483648, 2147483647), .inl (0, 40, -2147483648, 2147483647), .inl (0, 40, -2147483648, 2147483647), .inl (0, 40, -2147483648, 2147483647), .inr (8, [.inl 70, .inl 71, .inl 72, .inl 73, .inl 74, .inl 75]), .inl (0, 40, -2147483648, 2147483647), .inl (0, 40, -5, 39), .inl (0, 40, -2147483648, 2147483647), .inl (0, 40, -2147483648, 2147483647), .inl (0, 40, -2147483648, 2147483647), .inl (0, 40, -2147483648, 2147483647)]
theorem sx_0 : SX[0]? = some (.inr (9, [.inl 1, .inl 3, .inl 11, .inl 19, .inl 24, .inl 43, .inl 54])) := rfl
theorem sx_1 : SX[1]? = some (.inr (6, [.inl 2, .inr (0, 900)])) := rfl
theorem sx_2 : SX[2]? = some (.inl (2, 900, -128, 127)) := rfl
theorem sx_3 : SX[3]? = some (.inr (1, [.inl 4, .inl 5, .inl 6, .inl 7, .inl 8, .inl 9, .inl 10, .inr (0, 8), .inr (-2147483648, 2147483647), .inr (0, 60), .inr (-2147483648, 2147483647), .inr (-2147483648, 2147483647), .inr (0, 1)])) := rfl
theorem sx_4 : SX[4]? = some (.inl (0, 8, -2147483648, 2147483647)) := rfl
theorem sx_5 : SX[5]? = some (.inl (0, 64, -2147483648, 2147483647)) := rfl
theorem sx_6 : SX[6]? = some (.inl (0, 60, -2147483648, 2147483647)) := rfl
theorem sx_7 : SX[7]? = some (.inl (0, 60, -2147483648, 2147483647)) := rfl
theorem sx_8 : SX[8]? = some (.inl (0, 60, 0, 39)) := rfl
theorem sx_9 : SX[9]? = some (.inl (0, 60, -2, 39)) := rfl
theorem sx_10 : SX[10]? = some (.inl (0, 60, -2147483648, 2147483647)) := rfl
theorem sx_11 : SX[11]? = some (.inr (1, [.inl 12, .inl 13, .inl 14, .inl 15, .inl 16, .inl 17, .inl 18, .inr (0, 8), .inr (-2147483648, 2147483647), .inr (0, 60), .inr (-2147483648, 2147483647), .inr (-2147483648, 2147483647), .inr (0, 1)])) := rfl
theorem sx_12 : SX[12]? = some (.inl (0, 8, -2147483648, 2147483647)) := rfl
theorem sx_13 : SX[13]? = some (.inl (0, 64, -2147483648, 2147483647)) := rfl
theorem sx_14 : SX[14]? = some (.inl (0, 60, -2147483648, 2147483647)) := rfl
theorem sx_15 : SX[15]? = some (.inl (0, 60, -2147483648, 2147483647)) := rfl
theorem sx_16 : SX[16]? = some (.inl (0, 60, 0, 39)) := rfl
theorem sx_17 : SX[17]? = some (.inl (0, 60, -2, 39)) := rfl
theorem sx_18 : SX[18]? = some (.inl (0, 60, -2147483648, 2147483647)) := rfl
theorem sx_19 : SX[19]? = some (.inr (4, [.inl 20, .inl 11, .inr (0, 900), .inr (-2147483648, 2147483647), .inr (-2147483648, 2147483647), .inr (-2147483648, 2147483647), .inr (-2147483648, 2147483647), .inr (-2147483648, 2147483647)])) := rfl
theorem sx_20 : SX[20]? = some (.inr (7, [.inl 21, .inl 22, .inl 23, .inl 1, .inr (0, 901), .inr (0, 900), .inr (0, 900), .inr (-2147483648, 2147483647)])) := rfl
theorem sx_21 : SX[21]? = some (.inl (0, 901, -2147483648, 2147483647)) := rfl
theorem sx_22 : SX[22]? = some (.inl (0, 901, -2147483648, 2147483647)) := rfl
theorem sx_23 : SX[23]? = some (.inl (0, 901, -2147483648, 2147483647)) := rfl
theorem sx_24 : SX[24]? = some (.inr (5, [.inl 25, .inl 28, .inl 35, .inl 42, .inl 3])) := rfl
theorem sx_25 : SX[25]? = some (.inr (2, [.inl 26, .inl 27, .inr (0, 60)])) := rfl
theorem sx_26 : SX[26]? = some (.inl (0, 60, -2147483648, 2147483647)) := rfl
theorem sx_27 : SX[27]? = some (.inl (0, 60, 0, 59)) := rfl
theorem sx_28 : SX[28]? = some (.inr (8, [.inl 29, .inl 30, .inl 31, .inl 32, .inl 33, .inl 34])) := rfl
theorem sx_29 : SX[29]? = some (.inl (0, 40, -2147483648, 2147483647)) := rfl
theorem sx_30 : SX[30]? = some (.inl (0, 40, -5, 39)) := rfl
theorem sx_31 : SX[31]? = some (.inl (0, 40, -2147483648, 2147483647)) := rfl
theorem sx_32 : SX[32]? = some (.inl (0, 40, -2147483648, 2147483647)) := rfl
theorem sx_33 : SX[33]? = some (.inl (0, 40, -2147483648, 2147483647)) := rfl
theorem sx_34 : SX[34]? = some (.inl (0, 40, -2147483648, 2147483647)) := rfl
theorem sx_35 : SX[35]? = some (.inr (8, [.inl 36, .inl 37, .inl 38, .inl 39, .inl 40, .inl 41])) := rfl
theorem sx_36 : SX[36]? = some (.inl (0, 40, -2147483648, 2147483647)) := rfl
theorem sx_37 : SX[37]? = some (.inl (0, 40, -5, 39)) := rfl
theorem sx_38 : SX[38]? = some (.inl (0, 40, -2147483648, 2147483647)) := rfl
theorem sx_39 : SX[39]? = some (.inl (0, 40, -2147483648, 2147483647)) := rfl
theorem sx_40 : SX[40]? = some (.inl (0, 40, -2147483648, 2147483647)) := rfl
theorem sx_41 : SX[41]? = some (.inl (0, 40, -2147483648, 2147483647)) := rfl
theorem sx_42 : SX[42]? = some (.inl (0, 60, -2147483648, 2147483647)) := rfl
theorem sx_43 : SX[43]? = some (.inr (3, [.inl 44, .inl 51, .inl 24, .inl 3, .inr (-2147483648, 2147483647), .inr (-2147483648, 2147483647), .inr (-2147483648, 2147483647)])) := rfl
theorem sx_44 : SX[44]? = some (.inr (8, [.inl 45, .inl 46, .inl 47, .inl 48, .inl 49, .inl 50])) := rfl
theorem sx_45 : SX[45]? = some (.inl (0, 40, -2147483648, 2147483647)) := rfl
theorem sx_46 : SX[46]? = some (.inl (0, 40, -5, 39)) := rfl
theorem sx_47 : SX[47]? = some (.inl (0, 40, -2147483648, 2147483647)) := rfl
theorem sx_48 : SX[48]? = some (.inl (0, 40, -2147483648, 2147483647)) := rfl
theorem sx_49 : SX[49]? = some (.inl (0, 40, -2147483648, 2147483647)) := rfl
theorem sx_50 : SX[50]? = some (.inl (0, 40, -2147483648, 2147483647)) := rfl
theorem sx_51 : SX[51]? = some (.inr (2, [.inl 52, .inl 53, .inr (0, 60)])) := rfl
theorem sx_52 : SX[52]? = some (.inl (0, 60, -2147483648, 2147483647)) := rfl
theorem sx_53 : SX[53]? = some (.inl (0, 60, 0, 59)) := rfl
theorem sx_54 : SX[54]? = some (.inr (0, [.inl 55, .inl 62, .inl 69, .inl 3, .inl 25, .inr (0, 1), .inr (0, 1), .inr (-2147483648, 2147483647), .inr (-2147483648, 2147483647), .inr (-2147483648, 2147483647), .inr (-2147483648, 2147483647), .inr (-2147483648, 2147483647)])) := rfl
theorem sx_55 : SX[55]? = some (.inr (8, [.inl 56, .inl 57, .inl 58, .inl 59, .inl 60, .inl 61])) := rfl
theorem sx_56 : SX[56]? = some (.inl (0, 40, -2147483648, 2147483647)) := rfl
theorem sx_57 : SX[57]? = some (.inl (0, 40, -5, 39)) := rfl
theorem sx_58 : SX[58]? = some (.inl (0, 40, -2147483648, 2147483647)) := rfl
theorem sx_59 : SX[59]? = some (.inl (0, 40, -2147483648, 2147483647)) := rfl
theorem sx_60 : SX[60]? = some (.inl (0, 40, -2147483648, 2147483647)) := rfl
theorem sx_61 : SX[61]? = some (.inl (0, 40, -2147483648, 2147483647)) := rfl
theorem sx_62 : SX[62]? = some (.inr (8, [.inl 63, .inl 64, .inl 65, .inl 66, .inl 67, .inl 68])) := rfl
theorem sx_63 : SX[63]? = some (.inl (0, 40, -2147483648, 2147483647)) := rfl
theorem sx_64 : SX[64]? = some (.inl (0, 40, -5, 39)) := rfl
theorem sx_65 : SX[65]? = some (.inl (0, 40, -2147483648, 2147483647)) := rfl
theorem sx_66 : SX[66]? = some (.inl (0, 40, -2147483648, 2147483647)) := rfl
theorem sx_67 : SX[67]? = some (.inl (0, 40, -2147483648, 2147483647)) := rfl
theorem sx_68 : SX[68]? = some (.inl (0, 40, -2147483648, 2147483647)) := rfl
theorem sx_69 : SX[69]? = some (.inr (8, [.inl 70, .inl 71, .inl 72, .inl 73, .inl 74, .inl 75])) := rfl
theorem sx_70 : SX[70]? = some (.inl (0, 40, -2147483648, 2147483647)) := rfl
theorem sx_71 : SX[71]? = some (.inl (0, 40, -5, 39)) := rfl
theorem sx_72 : SX[72]? = some (.inl (0, 40, -2147483648, 2147483647)) := rfl
theorem sx_73 : SX[73]? = some (.inl (0, 40, -2147483648, 2147483647)) := rfl
theorem sx_74 : SX[74]? = some (.inl (0, 40, -2147483648, 2147483647)) := rfl
theorem sx_75 : SX[75]? = some (.inl (0, 40, -2147483648, 2147483647)) := rfl
def zWo (w : Nat) : Prop := (28 ≤ w ∧ (w + 6 < 42 ∨ 42 < w)) ∧ SX[w]? = some (.inr (8, [.inl (w + 1), .inl (w + 2), .inl (w + 3), .inl (w + 4), .inl (w + 5), .inl (w + 6)])) ∧ SX[w + 1]? = some (.inl (0, 40, -2147483648, 2147483647)) ∧ SX[w + 2]? = some (.inl (0, 40, -5, 39)) ∧ SX[w + 3]? = some (.inl (0, 40, -2147483648, 2147483647)) ∧ SX[w + 4]? = some (.inl (0, 40, -2147483648, 2147483647)) ∧ SX[w + 5]? = some (.inl (0, 40, -2147483648, 2147483647)) ∧ SX[w + 6]? = some (.inl (0, 40, -2147483648, 2147483647))
theorem zWo_28 : zWo 28 := ⟨by decide, sx_28, sx_29, sx_30, sx_31, sx_32, sx_33, sx_34⟩
theorem zWo_35 : zWo 35 := ⟨by decide, sx_35, sx_36, sx_37, sx_38, sx_39, sx_40, sx_41⟩
theorem zWo_44 : zWo 44 := ⟨by decide, sx_44, sx_45, sx_46, sx_47, sx_48, sx_49, sx_50⟩
theorem zWo_55 : zWo 55 := ⟨by decide, sx_55, sx_56, sx_57, sx_58, sx_59, sx_60, sx_61⟩
theorem zWo_62 : zWo 62 := ⟨by decide, sx_62, sx_63, sx_64, sx_65, sx_66, sx_67, sx_68⟩
theorem zWo_69 : zWo 69 := ⟨by decide, sx_69, sx_70, sx_71, sx_72, sx_73, sx_74, sx_75⟩
def zBo (b : Nat) : Prop := (b = 3 ∨ b = 11) ∧ SX[b]? = some (.inr (1, [.inl (b + 1), .inl (b + 2), .inl (b + 3), .inl (b + 4), .inl (b + 5), .inl (b + 6), .inl (b + 7), .inr (0, 8), .inr (-2147483648, 2147483647), .inr (0, 60), .inr (-2147483648, 2147483647), .inr (-2147483648, 2147483647), .inr (0, 1)])) ∧ SX[b + 1]? = some (.inl (0, 8, -2147483648, 2147483647)) ∧ SX[b + 2]? = some (.inl (0, 64, -2147483648, 2147483647)) ∧ SX[b + 3]? = some (.inl (0, 60, -2147483648, 2147483647)) ∧ SX[b + 4]? = some (.inl (0, 60, -2147483648, 2147483647)) ∧ SX[b + 5]? = some (.inl (0, 60, 0, 39)) ∧ SX[b + 6]? = some (.inl (0, 60, -2, 39)) ∧ SX[b + 7]? = some (.inl (0, 60, -2147483648, 2147483647))
theorem zBo_3 : zBo 3 := ⟨by decide, sx_3, sx_4, sx_5, sx_6, sx_7, sx_8, sx_9, sx_10⟩
def zCo (c : Nat) : Prop := (c = 25 ∨ c = 51) ∧ SX[c]? = some (.inr (2, [.inl (c + 1), .inl (c + 2), .inr (0, 60)])) ∧ SX[c + 1]? = some (.inl (0, 60, -2147483648, 2147483647)) ∧ SX[c + 2]? = some (.inl (0, 60, 0, 59))
theorem zCo_25 : zCo 25 := ⟨by decide, sx_25, sx_26, sx_27⟩
theorem zCo_51 : zCo 51 := ⟨by decide, sx_51, sx_52, sx_53⟩
def JB (H : mzH) (b : Nat) : Prop := ∀ k, k < 60 → (aZ H (b + 4) k).toInt = 1 → 0 ≤ (aZ H (b + 6) k).toInt
def JX (H : mzH) : Prop := JB H 3 ∧ JB H 11
theorem JX_use {H : mzH} {b k : Nat} (hJ : JX H) (hb : b = 3 ∨ b = 11) (hk : k < 60) : (aZ H (b + 4) k).toInt = 1 → 0 ≤ (aZ H (b + 6) k).toInt := by
  rcases hb with rfl | rfl
  · exact hJ.1 k hk
  · exact hJ.2 k hk
theorem JX_of {H H1 : mzH} (hJ : JX H) (h : ∀ k, aZ H1 7 k = aZ H 7 k ∧ aZ H1 9 k = aZ H 9 k ∧ aZ H1 15 k = aZ H 15 k ∧ aZ H1 17 k = aZ H 17 k) : JX H1 :=
  ⟨fun k hk => by rw [(h k).1, (h k).2.1]; exact hJ.1 k hk, fun k hk => by rw [(h k).2.2.1, (h k).2.2.2]; exact hJ.2 k hk⟩
theorem JX_sF {H H1 : mzH} {a f : Nat} {v : Int32} (e : H1 = sF H a f v) (hJ : JX H) : JX H1 := JX_of hJ (fun k => by rw [e]; exact ⟨aZ_sF, aZ_sF, aZ_sF, aZ_sF⟩)
theorem JX_sA {H H1 : mzH} {a i : Nat} {v : Int32} (h : a ≠ 7 ∧ a ≠ 9 ∧ a ≠ 15 ∧ a ≠ 17) (e : H1 = sA H a i v) (hJ : JX H) : JX H1 := JX_of hJ (fun k => by rw [e]; exact ⟨aZ_sA_nc (by omega), aZ_sA_nc (by omega), aZ_sA_nc (by omega), aZ_sA_nc (by omega)⟩)
theorem JX_sC {H H1 : mzH} {a b : Nat} (h : a ≠ 7 ∧ a ≠ 9 ∧ a ≠ 15 ∧ a ≠ 17) (e : H1 = sC H b a) (hJ : JX H) : JX H1 := JX_of hJ (fun k => by rw [e]; exact ⟨aZ_sC_nc (by omega), aZ_sC_nc (by omega), aZ_sC_nc (by omega), aZ_sC_nc (by omega)⟩)
theorem JX_add {H H1 H2 H3 H4 H5 H6 : mzH} {b i f : Nat} {a1 a2 a3 a4 a5 v : Int32} (hb : b = 3 ∨ b = 11) (hp : a2.toInt = 1 → 0 ≤ a4.toInt) (hi : i < 60) (hJ : JX H) (hI1 : gI SX H1) (hI3 : gI SX H3) (e1 : H1 = sA H (b + 3) i a1) (e2 : H2 = sA H1 (b + 4) i a2) (e3 : H3 = sA H2 (b + 5) i a3) (e4 : H4 = sA H3 (b + 6) i a4) (e5 : H5 = sA H4 (b + 7) i a5) (e6 : H6 = sF H5 b f v) : JX H6 := by
  have sa : ∃ q, SX[b + 4]? = some (.inl (0, 60, q)) := by rcases hb with rfl | rfl <;> exact ⟨_, rfl⟩
  have sb : ∃ q, SX[b + 6]? = some (.inl (0, 60, q)) := by rcases hb with rfl | rfl <;> exact ⟨_, rfl⟩
  obtain ⟨⟨q1, q2⟩, sa⟩ := sa
  obtain ⟨⟨q3, q4⟩, sb⟩ := sb
  have A : ∀ y k, y ≠ b + 3 → y ≠ b + 4 → y ≠ b + 5 → y ≠ b + 6 → y ≠ b + 7 → aZ H6 y k = aZ H y k := fun y k n3 n4 n5 n6 n7 => by
    rw [e6, aZ_sF, e5, aZ_sA_nc n7.symm, e4, aZ_sA_nc n6.symm, e3, aZ_sA_nc n5.symm, e2, aZ_sA_nc n4.symm, e1, aZ_sA_nc n3.symm]
  have B : ∀ k, k < 60 → (aZ H6 (b + 4) k).toInt = 1 → 0 ≤ (aZ H6 (b + 6) k).toInt := fun k hk => by
    rw [e6, aZ_sF, aZ_sF, e5, aZ_sA_nc (by omega), aZ_sA_nc (by omega), e4, aZ_sA_nc (by omega)]
    if e : i = k then
      subst e
      rw [aZ_sA_eq hI3 sb hk, e3, aZ_sA_nc (by omega), e2, aZ_sA_eq hI1 sa hk]
      exact hp
    else
      rw [aZ_sA_ne e, e3, aZ_sA_nc (by omega), aZ_sA_nc (by omega), e2, aZ_sA_ne e, aZ_sA_nc (by omega), e1, aZ_sA_nc (by omega), aZ_sA_nc (by omega)]
      exact JX_use hJ hb hk
  rcases hb with rfl | rfl
  · exact ⟨B, fun k hk => by rw [A _ _ (by decide) (by decide) (by decide) (by decide) (by decide), A _ _ (by decide) (by decide) (by decide) (by decide) (by decide)]; exact hJ.2 k hk⟩
  · exact ⟨fun k hk => by rw [A _ _ (by decide) (by decide) (by decide) (by decide) (by decide), A _ _ (by decide) (by decide) (by decide) (by decide) (by decide)]; exact hJ.1 k hk, B⟩
theorem JX_bec {H H1 H2 H3 H4 H5 H6 H7 H8 : mzH} {b d : Nat} (hb : b = 3 ∨ b = 11) (hd : d = 3 ∨ d = 11) (hI3 : gI SX H3) (hI5 : gI SX H5) (hJ : JX H) (e1 : H1 = sC H (d + 1) (b + 1)) (e2 : H2 = sC H1 (d + 2) (b + 2)) (e3 : H3 = sC H2 (d + 3) (b + 3)) (e4 : H4 = sC H3 (d + 4) (b + 4)) (e5 : H5 = sC H4 (d + 5) (b + 5)) (e6 : H6 = sC H5 (d + 6) (b + 6)) (e7 : H7 = sC H6 (d + 7) (b + 7)) (e8 : ∀ x k, aZ H8 x k = aZ H7 x k) : JX H8 := by
  have sa : ∀ c, c = 3 ∨ c = 11 → ∃ q, SX[c + 4]? = some (.inl (0, 60, q)) := fun c hb => by rcases hb with rfl | rfl <;> exact ⟨_, rfl⟩
  have sb : ∀ c, c = 3 ∨ c = 11 → ∃ q, SX[c + 6]? = some (.inl (0, 60, q)) := fun c hb => by rcases hb with rfl | rfl <;> exact ⟨_, rfl⟩
  obtain ⟨⟨q1, q2⟩, sa1⟩ := sa b hb
  obtain ⟨⟨q3, q4⟩, sa2⟩ := sa d hd
  obtain ⟨⟨q5, q6⟩, sb1⟩ := sb b hb
  obtain ⟨⟨q7, q8⟩, sb2⟩ := sb d hd
  have A : ∀ y k, y ≠ b + 1 → y ≠ b + 2 → y ≠ b + 3 → y ≠ b + 4 → y ≠ b + 5 → y ≠ b + 6 → y ≠ b + 7 → aZ H8 y k = aZ H y k := fun y k n1 n2 n3 n4 n5 n6 n7 => by
    rw [e8, e7, aZ_sC_nc n7.symm, e6, aZ_sC_nc n6.symm, e5, aZ_sC_nc n5.symm, e4, aZ_sC_nc n4.symm, e3, aZ_sC_nc n3.symm, e2, aZ_sC_nc n2.symm, e1, aZ_sC_nc n1.symm]
  have B1 : ∀ k, aZ H8 (b + 4) k = aZ H (d + 4) k := fun k => by
    rw [e8, e7, aZ_sC_nc (by omega), e6, aZ_sC_nc (by omega), e5, aZ_sC_nc (by omega), e4, aZ_sC_eq hI3 sa1 sa2, e3, aZ_sC_nc (by omega), e2, aZ_sC_nc (by omega), e1, aZ_sC_nc (by omega)]
  have B2 : b = d ∨ ∀ k, aZ H8 (b + 6) k = aZ H (d + 6) k := by
    if e : b = d then exact .inl e else
    refine .inr (fun k => ?_)
    rw [e8, e7, aZ_sC_nc (by omega), e6, aZ_sC_eq hI5 sb1 sb2, e5, aZ_sC_nc (by omega), e4, aZ_sC_nc (by omega), e3, aZ_sC_nc (by omega), e2, aZ_sC_nc (by omega), e1, aZ_sC_nc (by omega)]
  have B3 : b = d → ∀ k, aZ H8 (b + 6) k = aZ H (d + 6) k := fun e k => by
    subst e
    rw [e8, e7, aZ_sC_nc (by omega), e6, aZ_sC_eq hI5 sb1 sb2, e5, aZ_sC_nc (by omega), e4, aZ_sC_nc (by omega), e3, aZ_sC_nc (by omega), e2, aZ_sC_nc (by omega), e1, aZ_sC_nc (by omega)]
  have B4 : ∀ k, aZ H8 (b + 6) k = aZ H (d + 6) k := by rcases B2 with e | h; exact B3 e; exact h
  have B : ∀ k, k < 60 → (aZ H8 (b + 4) k).toInt = 1 → 0 ≤ (aZ H8 (b + 6) k).toInt := fun k hk => by rw [B1, B4]; exact JX_use hJ hd hk
  rcases hb with rfl | rfl
  · exact ⟨B, fun k hk => by rw [A _ _ (by decide) (by decide) (by decide) (by decide) (by decide) (by decide) (by decide), A _ _ (by decide) (by decide) (by decide) (by decide) (by decide) (by decide) (by decide)]; exact hJ.2 k hk⟩
  · exact ⟨fun k hk => by rw [A _ _ (by decide) (by decide) (by decide) (by decide) (by decide) (by decide) (by decide), A _ _ (by decide) (by decide) (by decide) (by decide) (by decide) (by decide) (by decide)]; exact hJ.1 k hk, B⟩
/-- the tape, the book and the reader are as they were -/
def kpB (H B : mzH) : Prop := ∀ c, (c < 11 ∨ c = 19) → (∀ f, fZ B c f = fZ H c f) ∧ (∀ i, aZ B c i = aZ H c i)
theorem kpB_r {H : mzH} : kpB H H := fun _ _ => ⟨fun _ => rfl, fun _ => rfl⟩
theorem kpB_t {H B B1 : mzH} (h : kpB H B) (g : kpB B B1) : kpB H B1 := fun c hc => ⟨fun f => ((g c hc).1 f).trans ((h c hc).1 f), fun i => ((g c hc).2 i).trans ((h c hc).2 i)⟩
theorem kpB_A {H B B1 : mzH} {a f : Nat} {v : Int32} (m : kpB H B) (e : B1 = sA B a f v) (h : ¬ (a < 11 ∨ a = 19)) : kpB H B1 := kpB_t m (fun c hc => ⟨fun g => by rw [e, fZ_sA], fun i => by rw [e, aZ_sA_nc (by omega)]⟩)
def kpX (H B : mzH) : Prop := ∀ c, (c < 11 ∨ c = 19 ∨ (25 ≤ c ∧ c ≤ 27) ∨ c = 42) → (∀ f, fZ B c f = fZ H c f) ∧ (∀ i, aZ B c i = aZ H c i)
theorem kpX_r {H : mzH} : kpX H H := fun _ _ => ⟨fun _ => rfl, fun _ => rfl⟩
theorem kpX_t {H B B1 : mzH} (h : kpX H B) (g : kpX B B1) : kpX H B1 := fun c hc => ⟨fun f => ((g c hc).1 f).trans ((h c hc).1 f), fun i => ((g c hc).2 i).trans ((h c hc).2 i)⟩
theorem kpX_F {H B B1 : mzH} {a f : Nat} {v : Int32} (m : kpX H B) (e : B1 = sF B a f v) (h : ¬ (a < 11 ∨ a = 19 ∨ (25 ≤ a ∧ a ≤ 27) ∨ a = 42)) : kpX H B1 := kpX_t m (fun c hc => ⟨fun g => by rw [e, fZ_sF_nc (by omega)], fun i => by rw [e, aZ_sF]⟩)
theorem kpX_A {H B B1 : mzH} {a f : Nat} {v : Int32} (m : kpX H B) (e : B1 = sA B a f v) (h : ¬ (a < 11 ∨ a = 19 ∨ (25 ≤ a ∧ a ≤ 27) ∨ a = 42)) : kpX H B1 := kpX_t m (fun c hc => ⟨fun g => by rw [e, fZ_sA], fun i => by rw [e, aZ_sA_nc (by omega)]⟩)
theorem kpX_C {H B B1 : mzH} {S : List gSp} {a b d n d1 n1 : Nat} {lo hi lo1 hi1 : Int} (hI : gI S B) (hs : S[a]? = some (.inl (d, n, lo, hi))) (hs1 : S[b]? = some (.inl (d1, n1, lo1, hi1))) (m : kpX H B) (e : B1 = sC B b a) (h : ¬ (a < 11 ∨ a = 19 ∨ (25 ≤ a ∧ a ≤ 27) ∨ a = 42)) : kpX H B1 := kpX_t m (fun c hc => ⟨fun g => by rw [e, fZ_sC hI hs hs1], fun i => by rw [e, aZ_sC_nc (by omega)]⟩)
/-- all but the cells lo to hi are as they were -/
def kpN (lo hi : Nat) (H B : mzH) : Prop := ∀ c, ¬ (lo ≤ c ∧ c ≤ hi) → (∀ f, fZ B c f = fZ H c f) ∧ (∀ i, aZ B c i = aZ H c i)
theorem kpN_r {lo hi : Nat} {H : mzH} : kpN lo hi H H := fun _ _ => ⟨fun _ => rfl, fun _ => rfl⟩
theorem kpN_t {lo hi : Nat} {H B B1 : mzH} (h : kpN lo hi H B) (g : kpN lo hi B B1) : kpN lo hi H B1 := fun c hc => ⟨fun f => ((g c hc).1 f).trans ((h c hc).1 f), fun i => ((g c hc).2 i).trans ((h c hc).2 i)⟩
theorem kpN_F {lo hi : Nat} {H B B1 : mzH} {a f : Nat} {v : Int32} (m : kpN lo hi H B) (e : B1 = sF B a f v) (h : lo ≤ a ∧ a ≤ hi) : kpN lo hi H B1 := kpN_t m (fun c hc => ⟨fun g => by rw [e, fZ_sF_nc (by omega)], fun i => by rw [e, aZ_sF]⟩)
theorem kpN_A {lo hi : Nat} {H B B1 : mzH} {a f : Nat} {v : Int32} (m : kpN lo hi H B) (e : B1 = sA B a f v) (h : lo ≤ a ∧ a ≤ hi) : kpN lo hi H B1 := kpN_t m (fun c hc => ⟨fun g => by rw [e, fZ_sA], fun i => by rw [e, aZ_sA_nc (by omega)]⟩)
theorem kpN_C {lo hi' : Nat} {H B B1 : mzH} {S : List gSp} {a b d n d1 n1 : Nat} {l h1 lo1 hi1 : Int} (hI : gI S B) (hs : S[a]? = some (.inl (d, n, l, h1))) (hs1 : S[b]? = some (.inl (d1, n1, lo1, hi1))) (m : kpN lo hi' H B) (e : B1 = sC B b a) (h : lo ≤ a ∧ a ≤ hi') : kpN lo hi' H B1 := kpN_t m (fun c hc => ⟨fun g => by rw [e, fZ_sC hI hs hs1], fun i => by rw [e, aZ_sC_nc (by omega)]⟩)
theorem kpB_X {H B : mzH} (h : kpX H B) : kpB H B := fun c hc => h c (by omega)
theorem kpB_N {c : Nat} {H B : mzH} (hc : 25 ≤ c) (h : kpN c (c + 2) H B) : kpB H B := fun d hd => h d (by omega)
theorem kpX_N {c : Nat} {H B : mzH} (hc : 42 < c) (h : kpN c (c + 2) H B) : kpX H B := fun d hd => h d (by omega)
