/-! WHAT IS TOLD OF A THING -/
def telX (s : pS) (n : Nat) (w : Int) : Int := if whr s n = -2 ∨ whr s n = -4 then whr s n else if w = 0 then s.kd n else if w = 1 then s.ii n else if w = 2 then (tp s n : Int) else if w = 3 then whr s n else if w = 4 then s.op n else if w = 5 then s.he n else if w = 6 then s.se n else if w = 7 then s.la (tp s n) else if w = 8 then hel s (n : Int) else cnt (fun x => inn s x (n : Int) = 1) 40
set_option maxRecDepth 4000 in
set_option maxHeartbeats 4000000 in
/-- J13.bitCount -/
theorem w_253  (a0 : Int64) (H : mzH) (hI : gI SX H) (hJ : JX H) : gCall 253 [.long a0] H (gRi (fun v H' => H = H' ∧ v.toInt = cnt (fun k => lbi a0 k = 1) 64)) := by
  refine gG_call [(0, .long a0)] ⟨rfl, trivial⟩ ?_
  show gG 2 zB_253 (mzBlk zB_253 0) [(0, .long a0)] [] H 0 0 _
  refine g_lload_n rfl ?_
  refine g_lload_n rfl ?_
  refine g_iconst (by decide) (fun v117 kv117 => ?_)
  refine g_lushr (fun v118 ov118 => ?_)
  refine g_ldc2 (fun v119 ov119 => ?_)
  refine g_land (fun v120 ov120 => ?_)
  refine g_lsub (fun v121 ov121 => ?_)
  refine g_lstore_n (l' := [(0, .long v121)]) rfl rfl ?_
  refine g_lload_n rfl ?_
  refine g_ldc2 (fun v122 ov122 => ?_)
  refine g_land (fun v123 ov123 => ?_)
  refine g_lload_n rfl ?_
  refine g_iconst (by decide) (fun v124 kv124 => ?_)
  refine g_lushr (fun v125 ov125 => ?_)
  refine g_ldc2 (fun v126 ov126 => ?_)
  refine g_land (fun v127 ov127 => ?_)
  refine g_ladd (fun v128 ov128 => ?_)
  refine g_lstore_n (l' := [(0, .long v128)]) rfl rfl ?_
  refine g_lload_n rfl ?_
  refine g_lload_n rfl ?_
  refine g_iconst (by decide) (fun v129 kv129 => ?_)
  refine g_lushr (fun v130 ov130 => ?_)
  refine g_ladd (fun v131 ov131 => ?_)
  refine g_ldc2 (fun v132 ov132 => ?_)
  refine g_land (fun v133 ov133 => ?_)
  refine g_lstore_n (l' := [(0, .long v133)]) rfl rfl ?_
  refine g_lload_n rfl ?_
  refine g_lload_n rfl ?_
  refine g_bipush (by decide) (fun v134 kv134 => ?_)
  refine g_lushr (fun v135 ov135 => ?_)
  refine g_ladd (fun v136 ov136 => ?_)
  refine g_lstore_n (l' := [(0, .long v136)]) rfl rfl ?_
  refine g_lload_n rfl ?_
  refine g_lload_n rfl ?_
  refine g_bipush (by decide) (fun v137 kv137 => ?_)
  refine g_lushr (fun v138 ov138 => ?_)
  refine g_ladd (fun v139 ov139 => ?_)
  refine g_lstore_n (l' := [(0, .long v139)]) rfl rfl ?_
  refine g_lload_n rfl ?_
  refine g_lload_n rfl ?_
  refine g_bipush (by decide) (fun v140 kv140 => ?_)
  refine g_lushr (fun v141 ov141 => ?_)
  refine g_ladd (fun v142 ov142 => ?_)
  refine g_lstore_n (l' := [(0, .long v142)]) rfl rfl ?_
  refine g_lload_n rfl ?_
  refine g_l2i (fun v143 ov143 => ?_)
  refine g_bipush (by decide) (fun v144 kv144 => ?_)
  refine g_iand (by omega) (fun v145 ov145 lv145 uv145 => ?_)
  have e1 := bc_1 ov118 kv117 ov120 ov119 ov121
  have hb1 : ∀ i, btN a0 i ≤ 1 := fun i => by have := btN_1 (v := a0) (k := i); omega
  have hb0 : ∀ i, 64 ≤ i → btN a0 i = 0 := fun i hi => btN_64 hi
  have e2 := bc_2 e1 (fun i => by have := hb1 (2 * i); have := hb1 (2 * i + 1); omega) (fun i hi => by rw [hb0 (2 * i) (by omega), hb0 (2 * i + 1) (by omega)]) ov123 ov122 ov125 kv124 ov127 ov126 ov128
  have e3 := bc_3 e2 (fun i => by have := hb1 (2 * (2 * i)); have := hb1 (2 * (2 * i) + 1); have := hb1 (2 * (2 * i + 1)); have := hb1 (2 * (2 * i + 1) + 1); omega) (fun i hi => by rw [hb0 (2 * (2 * i)) (by omega), hb0 (2 * (2 * i) + 1) (by omega), hb0 (2 * (2 * i + 1)) (by omega), hb0 (2 * (2 * i + 1) + 1) (by omega)]) ov130 kv129 ov131 ov133 ov132
  have e3b := e3.trans (dg_cg (g := fun i => btN a0 (8 * i) + btN a0 (8 * i + 1) + (btN a0 (8 * i + 2) + btN a0 (8 * i + 3)) + (btN a0 (8 * i + 4) + btN a0 (8 * i + 5) + (btN a0 (8 * i + 6) + btN a0 (8 * i + 7)))) (fun i _ => by rw [show 2 * (2 * (2 * i)) = 8 * i by omega, show 2 * (2 * (2 * i) + 1) = 8 * i + 2 by omega, show 2 * (2 * (2 * i + 1)) = 8 * i + 4 by omega, show 2 * (2 * (2 * i + 1) + 1) = 8 * i + 6 by omega]))
  exact g_iret ⟨_, rfl, rfl, (bc_end (t := btN a0) (fun _ => rfl) e3b ov135 kv134 ov136 ov138 kv137 ov139 ov141 kv140 ov142 ov143 kv144 ov145)⟩
