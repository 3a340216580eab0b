/-! EACH PUBLIC CALL OF BOTH ENDS, from every state of the shapes (by program, wip/steps.py) -/
/-- what the answers of feed rest on -/
def zRel (Hx Hm : mzH) : Prop := (fZ Hx 1 1).toInt = (fZ Hm 0 2).toInt
def zIv (Hx Hm : mzH) : Prop := (gI SX Hx ∧ JX Hx) ∧ (gI SM Hm ∧ JN Hm) ∧ zRel Hx Hm
theorem zIv_0 : zIv zHx zHm := ⟨⟨zHx_gI, zHx_J⟩, ⟨zHm_gI, zHm_J⟩, by unfold zRel; decide +kernel⟩
noncomputable def zRun (f j : Nat) (as : List Value) (H : mzH) : mzR := zEx f (zN j) (zB j) (mzBlk (zB j) 0) (lv_args 0 as) [] H 0 0
def zBoth (jx jm : Nat) (xs : List Value) (Hx Hm : mzH) (E : Int32 → Int32 → Prop) : Prop := ∃ (f : Nat) (rx rm : Int32) (Gx Gm : mzH), zRun f jx (.ref 0 :: xs) Hx = some (some (.int rx), Gx) ∧ zRun f jm (.ref 0 :: xs) Hm = some (some (.int rm), Gm) ∧ zIv Gx Gm ∧ E rx rm
theorem zBoth_of {jx jm : Nat} {xs : List Value} {Hx Hm : mzH} {E : Int32 → Int32 → Prop} {R1 R2 : Int32 → mzH → Prop} (h1 : gCall jx (.ref 0 :: xs) Hx (gRi R1)) (h2 : gCall jm (.ref 0 :: xs) Hm (gRi R2)) (hk : ∀ rx rm Gx Gm, R1 rx Gx → R2 rm Gm → zIv Gx Gm ∧ E rx rm) : zBoth jx jm xs Hx Hm E := by
  obtain ⟨_, Gx, ⟨rx, rfl, p1⟩, f1, k1⟩ := h1
  obtain ⟨_, Gm, ⟨rm, rfl, p2⟩, f2, k2⟩ := h2
  exact ⟨f1 + f2, rx, rm, Gx, Gm, k1 _ (by omega), k2 _ (by omega), (hk rx rm Gx Gm p1 p2).1, (hk rx rm Gx Gm p1 p2).2⟩
theorem step_0 (a1 a2 a3 a4 a5 : Int32) {Hx Hm : mzH} (h : zIv Hx Hm) : zBoth 113 155 [.int a1, .int a2, .int a3, .int a4, .int a5] Hx Hm (fun a b => a = b) := by
  obtain ⟨⟨hIx, hJx⟩, ⟨hIm, hJm⟩, hR⟩ := h
  refine zBoth_of (s_113 a1 a2 a3 a4 a5 Hx hIx hJx) (s_155 a1 a2 a3 a4 a5 Hm hIm hJm) (fun rx rm Gx Gm p q => ?_)
  obtain ⟨ix, jx, px0⟩ := p
  obtain ⟨iy, jy, py0⟩ := q
  exact ⟨⟨⟨ix, jx⟩, ⟨iy, jy⟩, by unfold zRel at *; omega⟩, Int32.toInt_inj.mp (by unfold zRel at *; omega)⟩
theorem step_1 (a1 : Int32) {Hx Hm : mzH} (h : zIv Hx Hm) : zBoth 114 175 [.int a1] Hx Hm (fun _ _ => True) := by
  obtain ⟨⟨hIx, hJx⟩, ⟨hIm, hJm⟩, hR⟩ := h
  refine zBoth_of (s_114 a1 Hx hIx hJx) (s_175 a1 Hm hIm hJm) (fun rx rm Gx Gm p q => ?_)
  obtain ⟨ix, jx, px0⟩ := p
  obtain ⟨iy, jy, py0⟩ := q
  exact ⟨⟨⟨ix, jx⟩, ⟨iy, jy⟩, by unfold zRel at *; omega⟩, trivial⟩
theorem step_2 (a1 : Int32) {Hx Hm : mzH} (h : zIv Hx Hm) : zBoth 115 176 [.int a1] Hx Hm (fun _ _ => True) := by
  obtain ⟨⟨hIx, hJx⟩, ⟨hIm, hJm⟩, hR⟩ := h
  refine zBoth_of (s_115 a1 Hx hIx hJx) (s_176 a1 Hm hIm hJm) (fun rx rm Gx Gm p q => ?_)
  obtain ⟨ix, jx, px0⟩ := p
  obtain ⟨iy, jy, py0⟩ := q
  exact ⟨⟨⟨ix, jx⟩, ⟨iy, jy⟩, by unfold zRel at *; omega⟩, trivial⟩
theorem step_3 (a1 : Int32) {Hx Hm : mzH} (h : zIv Hx Hm) : zBoth 117 177 [.int a1] Hx Hm (fun _ _ => True) := by
  obtain ⟨⟨hIx, hJx⟩, ⟨hIm, hJm⟩, hR⟩ := h
  refine zBoth_of (s_117 a1 Hx hIx hJx) (s_177 a1 Hm hIm hJm) (fun rx rm Gx Gm p q => ?_)
  obtain rfl := p
  obtain ⟨iy, jy, ky0⟩ := q
  exact ⟨⟨⟨hIx, hJx⟩, ⟨iy, jy⟩, by unfold zRel at *; rw [ky0]; exact hR⟩, trivial⟩
theorem step_4 (a1 a2 : Int32) {Hx Hm : mzH} (h : zIv Hx Hm) : zBoth 118 179 [.int a1, .int a2] Hx Hm (fun _ _ => True) := by
  obtain ⟨⟨hIx, hJx⟩, ⟨hIm, hJm⟩, hR⟩ := h
  refine zBoth_of (s_118 a1 a2 Hx hIx hJx) (s_179 a1 a2 Hm hIm hJm) (fun rx rm Gx Gm p q => ?_)
  obtain rfl := p
  obtain ⟨iy, jy, ky0⟩ := q
  exact ⟨⟨⟨hIx, hJx⟩, ⟨iy, jy⟩, by unfold zRel at *; rw [ky0]; exact hR⟩, trivial⟩
theorem step_5 (a1 a2 : Int32) {Hx Hm : mzH} (h : zIv Hx Hm) : ∃ (f : Nat) (rm : Int32) (Gm : mzH), zRun f 202 [.ref 0, .int a1, .int a2] Hm = some (some (.int rm), Gm) ∧ zIv Hx Gm := by
  obtain ⟨hX, ⟨hIm, hJm⟩, hR⟩ := h
  obtain ⟨_, Gm, ⟨rm, rfl, q⟩, f2, k2⟩ := s_202 a1 a2 Hm hIm hJm
  obtain ⟨iy, jy, ky0⟩ := q
  exact ⟨f2, rm, Gm, k2 _ (Nat.le_refl _), hX, ⟨iy, jy⟩, by unfold zRel at *; rw [ky0]; exact hR⟩
theorem step_6 (a1 a2 a3 : Int32) {Hx Hm : mzH} (h : zIv Hx Hm) : zBoth 120 208 [.int a1, .int a2, .int a3] Hx Hm (fun _ _ => True) := by
  obtain ⟨⟨hIx, hJx⟩, ⟨hIm, hJm⟩, hR⟩ := h
  refine zBoth_of (s_120 a1 a2 a3 Hx hIx hJx) (s_208 a1 a2 a3 Hm hIm hJm) (fun rx rm Gx Gm p q => ?_)
  obtain ⟨ix, jx, kx0⟩ := p
  obtain ⟨iy, jy, ky0⟩ := q
  exact ⟨⟨⟨ix, jx⟩, ⟨iy, jy⟩, by unfold zRel at *; rw [kx0, ky0]; exact hR⟩, trivial⟩
theorem step_7 (a1 a2 a3 : Int32) {Hx Hm : mzH} (h : zIv Hx Hm) : zBoth 121 209 [.int a1, .int a2, .int a3] Hx Hm (fun _ _ => True) := by
  obtain ⟨⟨hIx, hJx⟩, ⟨hIm, hJm⟩, hR⟩ := h
  refine zBoth_of (s_121 a1 a2 a3 Hx hIx hJx) (s_209 a1 a2 a3 Hm hIm hJm) (fun rx rm Gx Gm p q => ?_)
  obtain ⟨ix, jx, kx0⟩ := p
  obtain ⟨iy, jy, ky0⟩ := q
  exact ⟨⟨⟨ix, jx⟩, ⟨iy, jy⟩, by unfold zRel at *; rw [kx0, ky0]; exact hR⟩, trivial⟩
theorem step_8 (a1 a2 a3 : Int32) {Hx Hm : mzH} (h : zIv Hx Hm) : zBoth 122 211 [.int a1, .int a2, .int a3] Hx Hm (fun _ _ => True) := by
  obtain ⟨⟨hIx, hJx⟩, ⟨hIm, hJm⟩, hR⟩ := h
  refine zBoth_of (s_122 a1 a2 a3 Hx hIx hJx) (s_211 a1 a2 a3 Hm hIm hJm) (fun rx rm Gx Gm p q => ?_)
  obtain ⟨ix, jx, kx0⟩ := p
  obtain ⟨iy, jy, ky0⟩ := q
  exact ⟨⟨⟨ix, jx⟩, ⟨iy, jy⟩, by unfold zRel at *; rw [kx0, ky0]; exact hR⟩, trivial⟩
theorem step_9 (a1 a2 : Int32) {Hx Hm : mzH} (h : zIv Hx Hm) : zBoth 123 213 [.int a1, .int a2] Hx Hm (fun _ _ => True) := by
  obtain ⟨⟨hIx, hJx⟩, ⟨hIm, hJm⟩, hR⟩ := h
  refine zBoth_of (s_123 a1 a2 Hx hIx hJx) (s_213 a1 a2 Hm hIm hJm) (fun rx rm Gx Gm p q => ?_)
  obtain ⟨ix, jx, kx0⟩ := p
  obtain ⟨iy, jy, ky0⟩ := q
  exact ⟨⟨⟨ix, jx⟩, ⟨iy, jy⟩, by unfold zRel at *; rw [kx0, ky0]; exact hR⟩, trivial⟩
theorem step_10 (a1 a2 a3 : Int32) {Hx Hm : mzH} (h : zIv Hx Hm) : zBoth 124 215 [.int a1, .int a2, .int a3] Hx Hm (fun _ _ => True) := by
  obtain ⟨⟨hIx, hJx⟩, ⟨hIm, hJm⟩, hR⟩ := h
  refine zBoth_of (s_124 a1 a2 a3 Hx hIx hJx) (s_215 a1 a2 a3 Hm hIm hJm) (fun rx rm Gx Gm p q => ?_)
  obtain ⟨ix, jx, kx0⟩ := p
  obtain ⟨iy, jy, ky0⟩ := q
  exact ⟨⟨⟨ix, jx⟩, ⟨iy, jy⟩, by unfold zRel at *; rw [kx0, ky0]; exact hR⟩, trivial⟩
theorem step_11 (a1 a2 : Int32) {Hx Hm : mzH} (h : zIv Hx Hm) : zBoth 125 220 [.int a1, .int a2] Hx Hm (fun _ _ => True) := by
  obtain ⟨⟨hIx, hJx⟩, ⟨hIm, hJm⟩, hR⟩ := h
  refine zBoth_of (s_125 a1 a2 Hx hIx hJx) (s_220 a1 a2 Hm hIm hJm) (fun rx rm Gx Gm p q => ?_)
  obtain ⟨ix, jx, kx0⟩ := p
  obtain ⟨iy, jy, ky0⟩ := q
  exact ⟨⟨⟨ix, jx⟩, ⟨iy, jy⟩, by unfold zRel at *; rw [kx0, ky0]; exact hR⟩, trivial⟩
theorem step_12 (a1 : Int32) {Hx Hm : mzH} (h : zIv Hx Hm) : zBoth 126 221 [.int a1] Hx Hm (fun _ _ => True) := by
  obtain ⟨⟨hIx, hJx⟩, ⟨hIm, hJm⟩, hR⟩ := h
  refine zBoth_of (s_126 a1 Hx hIx hJx) (s_221 a1 Hm hIm hJm) (fun rx rm Gx Gm p q => ?_)
  obtain ⟨ix, jx, kx0⟩ := p
  obtain ⟨iy, jy, ky0⟩ := q
  exact ⟨⟨⟨ix, jx⟩, ⟨iy, jy⟩, by unfold zRel at *; rw [kx0, ky0]; exact hR⟩, trivial⟩
theorem step_13 (a1 a2 : Int32) {Hx Hm : mzH} (h : zIv Hx Hm) : zBoth 127 223 [.int a1, .int a2] Hx Hm (fun _ _ => True) := by
  obtain ⟨⟨hIx, hJx⟩, ⟨hIm, hJm⟩, hR⟩ := h
  refine zBoth_of (s_127 a1 a2 Hx hIx hJx) (s_223 a1 a2 Hm hIm hJm) (fun rx rm Gx Gm p q => ?_)
  obtain ⟨ix, jx, kx0⟩ := p
  obtain ⟨iy, jy, ky0⟩ := q
  exact ⟨⟨⟨ix, jx⟩, ⟨iy, jy⟩, by unfold zRel at *; rw [kx0, ky0]; exact hR⟩, trivial⟩
theorem step_14 (a1 : Int32) {Hx Hm : mzH} (h : zIv Hx Hm) : zBoth 128 225 [.int a1] Hx Hm (fun _ _ => True) := by
  obtain ⟨⟨hIx, hJx⟩, ⟨hIm, hJm⟩, hR⟩ := h
  refine zBoth_of (s_128 a1 Hx hIx hJx) (s_225 a1 Hm hIm hJm) (fun rx rm Gx Gm p q => ?_)
  obtain rfl := p
  obtain ⟨iy, jy, ky0⟩ := q
  exact ⟨⟨⟨hIx, hJx⟩, ⟨iy, jy⟩, by unfold zRel at *; rw [ky0]; exact hR⟩, trivial⟩
theorem step_15 (a1 : Int32) {Hx Hm : mzH} (h : zIv Hx Hm) : zBoth 129 227 [.int a1] Hx Hm (fun _ _ => True) := by
  obtain ⟨⟨hIx, hJx⟩, ⟨hIm, hJm⟩, hR⟩ := h
  refine zBoth_of (s_129 a1 Hx hIx hJx) (s_227 a1 Hm hIm hJm) (fun rx rm Gx Gm p q => ?_)
  obtain ⟨ix, jx, kx0⟩ := p
  obtain ⟨iy, jy, ky0⟩ := q
  exact ⟨⟨⟨ix, jx⟩, ⟨iy, jy⟩, by unfold zRel at *; rw [kx0, ky0]; exact hR⟩, trivial⟩
theorem step_16 (a1 : Int32) {Hx Hm : mzH} (h : zIv Hx Hm) : zBoth 130 228 [.int a1] Hx Hm (fun _ _ => True) := by
  obtain ⟨⟨hIx, hJx⟩, ⟨hIm, hJm⟩, hR⟩ := h
  refine zBoth_of (s_130 a1 Hx hIx hJx) (s_228 a1 Hm hIm hJm) (fun rx rm Gx Gm p q => ?_)
  obtain ⟨ix, jx, kx0⟩ := p
  obtain ⟨iy, jy, ky0⟩ := q
  exact ⟨⟨⟨ix, jx⟩, ⟨iy, jy⟩, by unfold zRel at *; rw [kx0, ky0]; exact hR⟩, trivial⟩
theorem step_17 (a1 a2 a3 : Int32) {Hx Hm : mzH} (h : zIv Hx Hm) : zBoth 131 237 [.int a1, .int a2, .int a3] Hx Hm (fun _ _ => True) := by
  obtain ⟨⟨hIx, hJx⟩, ⟨hIm, hJm⟩, hR⟩ := h
  refine zBoth_of (s_131 a1 a2 a3 Hx hIx hJx) (s_237 a1 a2 a3 Hm hIm hJm) (fun rx rm Gx Gm p q => ?_)
  obtain ⟨ix, jx, kx0⟩ := p
  obtain ⟨iy, jy, ky0⟩ := q
  exact ⟨⟨⟨ix, jx⟩, ⟨iy, jy⟩, by unfold zRel at *; rw [kx0, ky0]; exact hR⟩, trivial⟩
theorem step_18 (a1 a2 a3 a4 : Int32) {Hx Hm : mzH} (h : zIv Hx Hm) : zBoth 132 239 [.int a1, .int a2, .int a3, .int a4] Hx Hm (fun _ _ => True) := by
  obtain ⟨⟨hIx, hJx⟩, ⟨hIm, hJm⟩, hR⟩ := h
  refine zBoth_of (s_132 a1 a2 a3 a4 Hx hIx hJx) (s_239 a1 a2 a3 a4 Hm hIm hJm) (fun rx rm Gx Gm p q => ?_)
  obtain ⟨ix, jx, kx0⟩ := p
  obtain ⟨iy, jy, ky0⟩ := q
  exact ⟨⟨⟨ix, jx⟩, ⟨iy, jy⟩, by unfold zRel at *; rw [kx0, ky0]; exact hR⟩, trivial⟩
theorem step_19 (a1 : Int32) {Hx Hm : mzH} (h : zIv Hx Hm) : zBoth 133 240 [.int a1] Hx Hm (fun _ _ => True) := by
  obtain ⟨⟨hIx, hJx⟩, ⟨hIm, hJm⟩, hR⟩ := h
  refine zBoth_of (s_133 a1 Hx hIx hJx) (s_240 a1 Hm hIm hJm) (fun rx rm Gx Gm p q => ?_)
  obtain ⟨ix, jx, kx0⟩ := p
  obtain ⟨iy, jy, ky0⟩ := q
  exact ⟨⟨⟨ix, jx⟩, ⟨iy, jy⟩, by unfold zRel at *; rw [kx0, ky0]; exact hR⟩, trivial⟩
theorem step_20 (a1 a2 : Int32) {Hx Hm : mzH} (h : zIv Hx Hm) : zBoth 134 242 [.int a1, .int a2] Hx Hm (fun _ _ => True) := by
  obtain ⟨⟨hIx, hJx⟩, ⟨hIm, hJm⟩, hR⟩ := h
  refine zBoth_of (s_134 a1 a2 Hx hIx hJx) (s_242 a1 a2 Hm hIm hJm) (fun rx rm Gx Gm p q => ?_)
  obtain ⟨ix, jx, kx0⟩ := p
  obtain ⟨iy, jy, ky0⟩ := q
  exact ⟨⟨⟨ix, jx⟩, ⟨iy, jy⟩, by unfold zRel at *; rw [kx0, ky0]; exact hR⟩, trivial⟩
theorem step_21 (a1 a2 : Int32) {Hx Hm : mzH} (h : zIv Hx Hm) : zBoth 135 243 [.int a1, .int a2] Hx Hm (fun _ _ => True) := by
  obtain ⟨⟨hIx, hJx⟩, ⟨hIm, hJm⟩, hR⟩ := h
  refine zBoth_of (s_135 a1 a2 Hx hIx hJx) (s_243 a1 a2 Hm hIm hJm) (fun rx rm Gx Gm p q => ?_)
  obtain ⟨ix, jx, kx0⟩ := p
  obtain ⟨iy, jy, ky0⟩ := q
  exact ⟨⟨⟨ix, jx⟩, ⟨iy, jy⟩, by unfold zRel at *; rw [kx0, ky0]; exact hR⟩, trivial⟩
theorem step_22 (a1 a2 : Int32) {Hx Hm : mzH} (h : zIv Hx Hm) : zBoth 136 217 [.int a1, .int a2] Hx Hm (fun _ _ => True) := by
  obtain ⟨⟨hIx, hJx⟩, ⟨hIm, hJm⟩, hR⟩ := h
  refine zBoth_of (s_136 a1 a2 Hx hIx hJx) (s_217 a1 a2 Hm hIm hJm) (fun rx rm Gx Gm p q => ?_)
  obtain ⟨ix, jx, kx0⟩ := p
  obtain ⟨iy, jy, ky0⟩ := q
  exact ⟨⟨⟨ix, jx⟩, ⟨iy, jy⟩, by unfold zRel at *; rw [kx0, ky0]; exact hR⟩, trivial⟩
theorem step_23 (a1 a2 : Int32) {Hx Hm : mzH} (h : zIv Hx Hm) : zBoth 137 218 [.int a1, .int a2] Hx Hm (fun _ _ => True) := by
  obtain ⟨⟨hIx, hJx⟩, ⟨hIm, hJm⟩, hR⟩ := h
  refine zBoth_of (s_137 a1 a2 Hx hIx hJx) (s_218 a1 a2 Hm hIm hJm) (fun rx rm Gx Gm p q => ?_)
  obtain ⟨ix, jx, kx0⟩ := p
  obtain ⟨iy, jy, ky0⟩ := q
  exact ⟨⟨⟨ix, jx⟩, ⟨iy, jy⟩, by unfold zRel at *; rw [kx0, ky0]; exact hR⟩, trivial⟩
theorem step_24 (a1 : Int32) {Hx Hm : mzH} (h : zIv Hx Hm) : zBoth 138 230 [.int a1] Hx Hm (fun _ _ => True) := by
  obtain ⟨⟨hIx, hJx⟩, ⟨hIm, hJm⟩, hR⟩ := h
  refine zBoth_of (s_138 a1 Hx hIx hJx) (s_230 a1 Hm hIm hJm) (fun rx rm Gx Gm p q => ?_)
  obtain ⟨ix, jx, kx0⟩ := p
  obtain ⟨iy, jy, ky0⟩ := q
  exact ⟨⟨⟨ix, jx⟩, ⟨iy, jy⟩, by unfold zRel at *; rw [kx0, ky0]; exact hR⟩, trivial⟩
theorem step_25 (a1 a2 : Int32) {Hx Hm : mzH} (h : zIv Hx Hm) : zBoth 139 231 [.int a1, .int a2] Hx Hm (fun _ _ => True) := by
  obtain ⟨⟨hIx, hJx⟩, ⟨hIm, hJm⟩, hR⟩ := h
  refine zBoth_of (s_139 a1 a2 Hx hIx hJx) (s_231 a1 a2 Hm hIm hJm) (fun rx rm Gx Gm p q => ?_)
  obtain ⟨ix, jx, kx0⟩ := p
  obtain ⟨iy, jy, ky0⟩ := q
  exact ⟨⟨⟨ix, jx⟩, ⟨iy, jy⟩, by unfold zRel at *; rw [kx0, ky0]; exact hR⟩, trivial⟩
theorem step_26 (a1 a2 a3 : Int32) {Hx Hm : mzH} (h : zIv Hx Hm) : zBoth 140 233 [.int a1, .int a2, .int a3] Hx Hm (fun _ _ => True) := by
  obtain ⟨⟨hIx, hJx⟩, ⟨hIm, hJm⟩, hR⟩ := h
  refine zBoth_of (s_140 a1 a2 a3 Hx hIx hJx) (s_233 a1 a2 a3 Hm hIm hJm) (fun rx rm Gx Gm p q => ?_)
  obtain ⟨ix, jx, kx0⟩ := p
  obtain ⟨iy, jy, ky0⟩ := q
  exact ⟨⟨⟨ix, jx⟩, ⟨iy, jy⟩, by unfold zRel at *; rw [kx0, ky0]; exact hR⟩, trivial⟩
theorem step_27 (a1 a2 : Int32) {Hx Hm : mzH} (h : zIv Hx Hm) : zBoth 141 234 [.int a1, .int a2] Hx Hm (fun _ _ => True) := by
  obtain ⟨⟨hIx, hJx⟩, ⟨hIm, hJm⟩, hR⟩ := h
  refine zBoth_of (s_141 a1 a2 Hx hIx hJx) (s_234 a1 a2 Hm hIm hJm) (fun rx rm Gx Gm p q => ?_)
  obtain ⟨ix, jx, kx0⟩ := p
  obtain ⟨iy, jy, ky0⟩ := q
  exact ⟨⟨⟨ix, jx⟩, ⟨iy, jy⟩, by unfold zRel at *; rw [kx0, ky0]; exact hR⟩, trivial⟩
theorem step_28 (a1 a2 a3 : Int32) {Hx Hm : mzH} (h : zIv Hx Hm) : zBoth 142 246 [.int a1, .int a2, .int a3] Hx Hm (fun _ _ => True) := by
  obtain ⟨⟨hIx, hJx⟩, ⟨hIm, hJm⟩, hR⟩ := h
  refine zBoth_of (s_142 a1 a2 a3 Hx hIx hJx) (s_246 a1 a2 a3 Hm hIm hJm) (fun rx rm Gx Gm p q => ?_)
  obtain ⟨ix, jx, kx0⟩ := p
  obtain ⟨iy, jy, ky0⟩ := q
  exact ⟨⟨⟨ix, jx⟩, ⟨iy, jy⟩, by unfold zRel at *; rw [kx0, ky0]; exact hR⟩, trivial⟩
theorem step_29 (a1 a2 a3 : Int32) {Hx Hm : mzH} (h : zIv Hx Hm) : zBoth 143 247 [.int a1, .int a2, .int a3] Hx Hm (fun _ _ => True) := by
  obtain ⟨⟨hIx, hJx⟩, ⟨hIm, hJm⟩, hR⟩ := h
  refine zBoth_of (s_143 a1 a2 a3 Hx hIx hJx) (s_247 a1 a2 a3 Hm hIm hJm) (fun rx rm Gx Gm p q => ?_)
  obtain ⟨ix, jx, kx0⟩ := p
  obtain ⟨iy, jy, ky0⟩ := q
  exact ⟨⟨⟨ix, jx⟩, ⟨iy, jy⟩, by unfold zRel at *; rw [kx0, ky0]; exact hR⟩, trivial⟩
theorem step_30 (a1 a2 : Int32) {Hx Hm : mzH} (h : zIv Hx Hm) : zBoth 144 249 [.int a1, .int a2] Hx Hm (fun _ _ => True) := by
  obtain ⟨⟨hIx, hJx⟩, ⟨hIm, hJm⟩, hR⟩ := h
  refine zBoth_of (s_144 a1 a2 Hx hIx hJx) (s_249 a1 a2 Hm hIm hJm) (fun rx rm Gx Gm p q => ?_)
  obtain ⟨ix, jx, kx0⟩ := p
  obtain ⟨iy, jy, ky0⟩ := q
  exact ⟨⟨⟨ix, jx⟩, ⟨iy, jy⟩, by unfold zRel at *; rw [kx0, ky0]; exact hR⟩, trivial⟩
theorem step_31 (a1 : Int32) {Hx Hm : mzH} (h : zIv Hx Hm) : zBoth 145 250 [.int a1] Hx Hm (fun _ _ => True) := by
  obtain ⟨⟨hIx, hJx⟩, ⟨hIm, hJm⟩, hR⟩ := h
  refine zBoth_of (s_145 a1 Hx hIx hJx) (s_250 a1 Hm hIm hJm) (fun rx rm Gx Gm p q => ?_)
  obtain ⟨ix, jx, kx0⟩ := p
  obtain ⟨iy, jy, ky0⟩ := q
  exact ⟨⟨⟨ix, jx⟩, ⟨iy, jy⟩, by unfold zRel at *; rw [kx0, ky0]; exact hR⟩, trivial⟩
theorem step_32 (a1 a2 a3 : Int32) {Hx Hm : mzH} (h : zIv Hx Hm) : zBoth 146 244 [.int a1, .int a2, .int a3] Hx Hm (fun _ _ => True) := by
  obtain ⟨⟨hIx, hJx⟩, ⟨hIm, hJm⟩, hR⟩ := h
  refine zBoth_of (s_146 a1 a2 a3 Hx hIx hJx) (s_244 a1 a2 a3 Hm hIm hJm) (fun rx rm Gx Gm p q => ?_)
  obtain rfl := p
  obtain ⟨iy, jy, ky0⟩ := q
  exact ⟨⟨⟨hIx, hJx⟩, ⟨iy, jy⟩, by unfold zRel at *; rw [ky0]; exact hR⟩, trivial⟩
theorem step_33 (a1 a2 a3 : Int32) {Hx Hm : mzH} (h : zIv Hx Hm) : zBoth 147 245 [.int a1, .int a2, .int a3] Hx Hm (fun _ _ => True) := by
  obtain ⟨⟨hIx, hJx⟩, ⟨hIm, hJm⟩, hR⟩ := h
  refine zBoth_of (s_147 a1 a2 a3 Hx hIx hJx) (s_245 a1 a2 a3 Hm hIm hJm) (fun rx rm Gx Gm p q => ?_)
  obtain ⟨ix, jx, kx0⟩ := p
  obtain ⟨iy, jy, ky0⟩ := q
  exact ⟨⟨⟨ix, jx⟩, ⟨iy, jy⟩, by unfold zRel at *; rw [kx0, ky0]; exact hR⟩, trivial⟩
theorem step_34 (a1 : Int32) {Hx Hm : mzH} (h : zIv Hx Hm) : zBoth 148 251 [.int a1] Hx Hm (fun _ _ => True) := by
  obtain ⟨⟨hIx, hJx⟩, ⟨hIm, hJm⟩, hR⟩ := h
  refine zBoth_of (s_148 a1 Hx hIx hJx) (s_251 a1 Hm hIm hJm) (fun rx rm Gx Gm p q => ?_)
  obtain rfl := p
  obtain ⟨iy, jy, ky0⟩ := q
  exact ⟨⟨⟨hIx, hJx⟩, ⟨iy, jy⟩, by unfold zRel at *; rw [ky0]; exact hR⟩, trivial⟩
