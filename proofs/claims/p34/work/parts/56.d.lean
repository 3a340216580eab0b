set_option maxRecDepth 4000 in
set_option maxHeartbeats 4000000 in
/-- X6.hasRoomFor -/
theorem s_70 (a1 : Int32) (ha1 : 0 ≤ a1.toInt ∧ a1.toInt ≤ 900) (H : mzH) (hI : gI SX H) (hJ : JX H) : gCall 70 [.ref 1, .int a1] H (gRi (fun v H' => H = H' ∧ (0 ≤ v.toInt ∧ v.toInt ≤ 1) ∧ (v.toInt = 0 ∨ (fZ H 1 1).toInt + a1.toInt ≤ 900) ∧ (¬ v.toInt = 0 ∨ 900 < (fZ H 1 1).toInt + a1.toInt))) := by
  refine gG_call [(0, .ref 1), (1, .int a1)] ⟨rfl, rfl, trivial⟩ ?_
  show gG 2 zB_70 (mzBlk zB_70 0) [(0, .ref 1), (1, .int a1)] [] H 0 0 _
  refine g_aload_n rfl ?_
  refine g_gfi hI sx_1 rfl (fun v25 ev25 lv25 uv25 => ?_)
  have iev25 : v25.toInt = (fZ H 1 1).toInt := by rw [← ev25]
  refine g_iload_n rfl ?_
  refine g_iadd (by first | with_reducible assumption | omega) (fun v26 ev26 => ?_)
  refine g_sipush (by decide) (fun v27 kv27 => ?_)
  refine g_if2_gt (fun c28 => ?_) (fun c28 => ?_)
  · refine g_iconst (by decide) (fun v29 kv29 => ?_)
    refine g_nop ?_
    exact g_zret (by first | with_reducible assumption | omega) ⟨_, rfl, rfl, (by first | with_reducible assumption | omega), (by first | with_reducible assumption | omega), (by first | with_reducible assumption | omega)⟩
  · refine g_iconst (by decide) (fun v30 kv30 => ?_)
    refine g_goto ?_
    exact g_zret (by first | with_reducible assumption | omega) ⟨_, rfl, rfl, (by first | with_reducible assumption | omega), (by first | with_reducible assumption | omega), (by first | with_reducible assumption | omega)⟩
set_option maxRecDepth 4000 in
set_option maxHeartbeats 4000000 in
/-- X8.knownAt -/
theorem s_92 (w : Nat) (hw : zWo w) (a1 : Int32) (ha1 : 0 ≤ a1.toInt ∧ a1.toInt ≤ 39) (H : mzH) (hI : gI SX H) (hJ : JX H) : gCall 92 [.ref w, .int a1] H (gRi (fun v H' => H = H')) := by
  obtain ⟨hwr, hw0, hw1, hw2, hw3, hw4, hw5, hw6⟩ := id hw
  refine gG_call [(0, .ref w), (1, .int a1)] ⟨rfl, rfl, trivial⟩ ?_
  show gG 2 zB_92 (mzBlk zB_92 0) [(0, .ref w), (1, .int a1)] [] H 0 0 _
  refine g_aload_n rfl ?_
  refine g_gfr hI hw0 rfl ?_
  refine g_aload_n rfl ?_
  refine g_iload_n rfl ?_
  refine g_invvi hI hw0 rfl rfl rfl rfl (s_89 w hw a1 (by first | with_reducible assumption | omega) H hI hJ) (fun v19 H17 r18 => ?_)
  obtain ⟨rfl, bv19⟩ := r18
  refine g_iaload hI hw4 rfl (by first | with_reducible assumption | omega) (fun v20 ev20 lv20 uv20 => ?_)
  exact g_iret ⟨_, rfl, rfl⟩
set_option maxRecDepth 4000 in
set_option maxHeartbeats 4000000 in
/-- X8.allKnownBy -/
theorem s_106 (w : Nat) (hw : zWo w) (a1 : Int32) (H : mzH) (hI : gI SX H) (hJ : JX H) : gCall 106 [.ref w, .int a1] H (gRl (fun _ H' => H = H')) := by
  obtain ⟨hwr, hw0, hw1, hw2, hw3, hw4, hw5, hw6⟩ := id hw
  refine gG_call [(0, .ref w), (1, .int a1)] ⟨rfl, rfl, trivial⟩ ?_
  show gG 5 zB_106 (mzBlk zB_106 0) [(0, .ref w), (1, .int a1)] [] H 0 0 _
  refine g_lconst (fun v237 _ => ?_)
  refine g_lstore_n (l' := [(0, .ref w), (1, .int a1), (2, .long v237)]) rfl rfl ?_
  refine g_iconst (by decide) (fun v238 kv238 => ?_)
  refine g_istore (l' := [(0, .ref w), (1, .int a1), (2, .long v237), (4, .int v238)]) rfl rfl ?_
  refine g_nop ?_
  have L241 : ∀ (N : Nat) (v239 : Int64) (v240 : Int32), (0 ≤ v240.toInt ∧ v240.toInt ≤ 40) → (40 - v240.toInt).toNat < N → gG 5 zB_106 (mzBlk zB_106 1) [(0, .ref w), (1, .int a1), (2, .long v239), (4, .int v240)] [] H 0 0 (gRl (fun _ H' => H = H')) := by
    intro N
    induction N with
    | zero => intro v239 v240 bv240 hmL241; exact absurd hmL241 (Nat.not_lt_zero _)
    | succ N ihL241 =>
      intro v239 v240 bv240 hmL241
      refine g_iload rfl ?_
      refine g_bipush (by decide) (fun v242 kv242 => ?_)
      refine g_if2_ge (fun c243 => ?_) (fun c243 => ?_)
      · refine g_lload_n rfl ?_
        exact g_lret ⟨_, rfl, rfl⟩
      · refine g_aload_n rfl ?_
        refine g_iload rfl ?_
        refine g_invvi hI hw0 rfl rfl rfl rfl (s_91 w hw v240 (by first | with_reducible assumption | omega) H hI hJ) (fun v246 H244 r245 => ?_)
        obtain rfl := r245
        refine g_if_lt (fun c247 => ?_) (fun c247 => ?_)
        · refine g_iinc (l' := (fun v248 => [(0, .ref w), (1, .int a1), (2, .long v239), (4, .int v248)])) rfl rfl (by decide) (by first | with_reducible assumption | omega) (fun _ => rfl) (fun v248 ev248 => ?_)
          refine g_goto ?_
          exact ihL241 v239 v248 (by first | with_reducible assumption | omega) (by first | with_reducible assumption | omega)
        · refine g_aload_n rfl ?_
          refine g_iload rfl ?_
          refine g_invvi hI hw0 rfl rfl rfl rfl (s_92 w hw v240 (by first | with_reducible assumption | omega) H hI hJ) (fun v251 H249 r250 => ?_)
          obtain rfl := r250
          refine g_iload_n rfl ?_
          refine g_if2_gt (fun c252 => ?_) (fun c252 => ?_)
          · refine g_iinc (l' := (fun v253 => [(0, .ref w), (1, .int a1), (2, .long v239), (4, .int v253)])) rfl rfl (by decide) (by first | with_reducible assumption | omega) (fun _ => rfl) (fun v253 ev253 => ?_)
            refine g_goto ?_
            exact ihL241 v239 v253 (by first | with_reducible assumption | omega) (by first | with_reducible assumption | omega)
          · refine g_lload_n rfl ?_
            refine g_lconst (fun v254 _ => ?_)
            refine g_iload rfl ?_
            refine g_lshl (fun v255 _ => ?_)
            refine g_lor (fun v256 _ => ?_)
            refine g_lstore_n (l' := [(0, .ref w), (1, .int a1), (2, .long v256), (4, .int v240)]) rfl rfl ?_
            refine g_nop ?_
            refine g_iinc (l' := (fun v257 => [(0, .ref w), (1, .int a1), (2, .long v256), (4, .int v257)])) rfl rfl (by decide) (by first | with_reducible assumption | omega) (fun _ => rfl) (fun v257 ev257 => ?_)
            refine g_goto ?_
            exact ihL241 v256 v257 (by first | with_reducible assumption | omega) (by first | with_reducible assumption | omega)
  exact L241 _ v237 v238 (by first | with_reducible assumption | omega) (Nat.lt_succ_self _)
set_option maxRecDepth 4000 in
set_option maxHeartbeats 4000000 in
/-- X8.clumpsAt -/
theorem s_108 (w : Nat) (hw : zWo w) (a1 : Int32) (H : mzH) (hI : gI SX H) (hJ : JX H) : gCall 108 [.ref w, .int a1] H (gRi (fun v H' => H = H')) := by
  obtain ⟨hwr, hw0, hw1, hw2, hw3, hw4, hw5, hw6⟩ := id hw
  refine gG_call [(0, .ref w), (1, .int a1)] ⟨rfl, rfl, trivial⟩ ?_
  show gG 4 zB_108 (mzBlk zB_108 0) [(0, .ref w), (1, .int a1)] [] H 0 0 _
  refine g_iconst (by decide) (fun v669 kv669 => ?_)
  refine g_istore_n (l' := [(0, .ref w), (1, .int a1), (2, .int v669)]) rfl rfl ?_
  refine g_iconst (by decide) (fun v670 kv670 => ?_)
  refine g_istore_n (l' := [(0, .ref w), (1, .int a1), (2, .int v669), (3, .int v670)]) rfl rfl ?_
  refine g_nop ?_
  have L673 : ∀ (N : Nat) (v671 : Int32) (v672 : Int32), (0 ≤ v672.toInt ∧ v672.toInt ≤ 40) → (40 - v672.toInt).toNat < N → gG 4 zB_108 (mzBlk zB_108 1) [(0, .ref w), (1, .int a1), (2, .int v671), (3, .int v672)] [] H 0 0 (gRi (fun v H' => H = H')) := by
    intro N
    induction N with
    | zero => intro v671 v672 bv672 hmL673; exact absurd hmL673 (Nat.not_lt_zero _)
    | succ N ihL673 =>
      intro v671 v672 bv672 hmL673
      refine g_iload_n rfl ?_
      refine g_bipush (by decide) (fun v674 kv674 => ?_)
      refine g_if2_ge (fun c675 => ?_) (fun c675 => ?_)
      · refine g_iload_n rfl ?_
        exact g_iret ⟨_, rfl, rfl⟩
      · refine g_aload_n rfl ?_
        refine g_iload_n rfl ?_
        refine g_invvi hI hw0 rfl rfl rfl rfl (s_91 w hw v672 (by first | with_reducible assumption | omega) H hI hJ) (fun v678 H676 r677 => ?_)
        obtain rfl := r677
        refine g_iload_n rfl ?_
        refine g_if2_ne (fun c679 => ?_) (fun c679 => ?_)
        · refine g_iinc (l' := (fun v680 => [(0, .ref w), (1, .int a1), (2, .int v671), (3, .int v680)])) rfl rfl (by decide) (by first | with_reducible assumption | omega) (fun _ => rfl) (fun v680 ev680 => ?_)
          refine g_goto ?_
          exact ihL673 v671 v680 (by first | with_reducible assumption | omega) (by first | with_reducible assumption | omega)
        · refine g_aload_n rfl ?_
          refine g_gfr hI hw0 rfl ?_
          refine g_iload_n rfl ?_
          refine g_iaload hI hw2 rfl (by first | with_reducible assumption | omega) (fun v681 ev681 lv681 uv681 => ?_)
          refine g_if_lt (fun c682 => ?_) (fun c682 => ?_)
          · refine g_iinc' (l' := (fun v683 => [(0, .ref w), (1, .int a1), (2, .int v683), (3, .int v672)])) rfl rfl (fun _ => rfl) (fun v683 => ?_)
            refine g_nop ?_
            refine g_iinc (l' := (fun v684 => [(0, .ref w), (1, .int a1), (2, .int v683), (3, .int v684)])) rfl rfl (by decide) (by first | with_reducible assumption | omega) (fun _ => rfl) (fun v684 ev684 => ?_)
            refine g_goto ?_
            exact ihL673 v683 v684 (by first | with_reducible assumption | omega) (by first | with_reducible assumption | omega)
          · refine g_aload_n rfl ?_
            refine g_aload_n rfl ?_
            refine g_gfr hI hw0 rfl ?_
            refine g_iload_n rfl ?_
            refine g_ialoadk hI hw2 rfl (by first | with_reducible assumption | omega) ev681 ?_
            refine g_iconst (by decide) (fun v685 kv685 => ?_)
            refine g_invvi hI hw0 rfl rfl rfl rfl (s_85 w hw v681 (by first | with_reducible assumption | omega) v685 H hI hJ) (fun v688 H686 r687 => ?_)
            obtain ⟨rfl, bv688⟩ := r687
            refine g_if_eq (fun c689 => ?_) (fun c689 => ?_)
            · refine g_iinc (l' := (fun v690 => [(0, .ref w), (1, .int a1), (2, .int v671), (3, .int v690)])) rfl rfl (by decide) (by first | with_reducible assumption | omega) (fun _ => rfl) (fun v690 ev690 => ?_)
              refine g_goto ?_
              exact ihL673 v671 v690 (by first | with_reducible assumption | omega) (by first | with_reducible assumption | omega)
            · refine g_nop ?_
              refine g_iinc' (l' := (fun v691 => [(0, .ref w), (1, .int a1), (2, .int v691), (3, .int v672)])) rfl rfl (fun _ => rfl) (fun v691 => ?_)
              refine g_nop ?_
              refine g_iinc (l' := (fun v692 => [(0, .ref w), (1, .int a1), (2, .int v691), (3, .int v692)])) rfl rfl (by decide) (by first | with_reducible assumption | omega) (fun _ => rfl) (fun v692 ev692 => ?_)
              refine g_goto ?_
              exact ihL673 v691 v692 (by first | with_reducible assumption | omega) (by first | with_reducible assumption | omega)
  exact L673 _ v669 v670 (by first | with_reducible assumption | omega) (Nat.lt_succ_self _)
set_option maxRecDepth 4000 in
set_option maxHeartbeats 4000000 in
/-- X8.tellOf -/
theorem s_109 (w : Nat) (hw : zWo w) (a1 : Int32) (ha1 : 0 ≤ a1.toInt ∧ a1.toInt ≤ 39) (a2 : Int32) (H : mzH) (hI : gI SX H) (hJ : JX H) : gCall 109 [.ref w, .int a1, .int a2] H (gRi (fun v H' => H = H')) := by
  obtain ⟨hwr, hw0, hw1, hw2, hw3, hw4, hw5, hw6⟩ := id hw
  refine gG_call [(0, .ref w), (1, .int a1), (2, .int a2)] ⟨rfl, rfl, rfl, trivial⟩ ?_
  show gG 4 zB_109 (mzBlk zB_109 0) [(0, .ref w), (1, .int a1), (2, .int a2)] [] H 0 0 _
  refine g_aload_n rfl ?_
  refine g_iload_n rfl ?_
  refine g_invvi hI hw0 rfl rfl rfl rfl (s_91 w hw a1 (by first | with_reducible assumption | omega) H hI hJ) (fun v163 H161 r162 => ?_)
  obtain rfl := r162
  refine g_istore_n (l' := [(0, .ref w), (1, .int a1), (2, .int a2), (3, .int v163)]) rfl rfl ?_
  refine g_iload_n rfl ?_
  refine g_bipush (by decide) (fun v164 kv164 => ?_)
  refine g_if2_eq (fun c165 => ?_) (fun c165 => ?_)
  · refine g_iload_n rfl ?_
    exact g_iret ⟨_, rfl, rfl⟩
  · refine g_iload_n rfl ?_
    refine g_bipush (by decide) (fun v166 kv166 => ?_)
    refine g_if2_ne (fun c167 => ?_) (fun c167 => ?_)
    · refine g_iload_n rfl ?_
      refine g_sw (by decide) (fun c168 => ?_) ⟨fun c168 => ?_, fun c168 => ?_, fun c168 => ?_, fun c168 => ?_, fun c168 => ?_, fun c168 => ?_, fun c168 => ?_, fun c168 => ?_, fun c168 => ?_, trivial⟩
      · refine g_aload_n rfl ?_
        refine g_iload_n rfl ?_
        refine g_invvl hI hw0 rfl rfl rfl rfl (s_104 w hw a1 H hI hJ) (fun v171 H169 r170 => ?_)
        obtain rfl := r170
        refine g_invti rfl rfl rfl (s_253 v171 H hI hJ) (fun v174 H172 r173 => ?_)
        obtain rfl := r173
        exact g_iret ⟨_, rfl, rfl⟩
      · refine g_aload_n rfl ?_
        refine g_gfr hI hw0 rfl ?_
        refine g_iload_n rfl ?_
        refine g_iaload hI hw1 rfl (by first | with_reducible assumption | omega) (fun v175 ev175 lv175 uv175 => ?_)
        exact g_iret ⟨_, rfl, rfl⟩
      · refine g_aload_n rfl ?_
        refine g_gfr hI hw0 rfl ?_
        refine g_iload_n rfl ?_
        refine g_iaload hI hw2 rfl (by first | with_reducible assumption | omega) (fun v176 ev176 lv176 uv176 => ?_)
        exact g_iret ⟨_, rfl, rfl⟩
      · refine g_aload_n rfl ?_
        refine g_iload_n rfl ?_
        refine g_invvi hI hw0 rfl rfl rfl rfl (s_89 w hw a1 (by first | with_reducible assumption | omega) H hI hJ) (fun v179 H177 r178 => ?_)
        obtain ⟨rfl, bv179⟩ := r178
        exact g_iret ⟨_, rfl, rfl⟩
      · refine g_iload_n rfl ?_
        exact g_iret ⟨_, rfl, rfl⟩
      · refine g_aload_n rfl ?_
        refine g_iload_n rfl ?_
        refine g_iconst (by decide) (fun v180 kv180 => ?_)
        refine g_invvi hI hw0 rfl rfl rfl rfl (s_85 w hw a1 (by first | with_reducible assumption | omega) v180 H hI hJ) (fun v183 H181 r182 => ?_)
        obtain ⟨rfl, bv183⟩ := r182
        refine g_if_eq (fun c184 => ?_) (fun c184 => ?_)
        · refine g_iconst (by decide) (fun v185 kv185 => ?_)
          refine g_nop ?_
          exact g_iret ⟨_, rfl, rfl⟩
        · refine g_iconst (by decide) (fun v186 kv186 => ?_)
          refine g_goto ?_
          exact g_iret ⟨_, rfl, rfl⟩
      · refine g_aload_n rfl ?_
        refine g_iload_n rfl ?_
        refine g_bipush (by decide) (fun v187 kv187 => ?_)
        refine g_invvi hI hw0 rfl rfl rfl rfl (s_85 w hw a1 (by first | with_reducible assumption | omega) v187 H hI hJ) (fun v190 H188 r189 => ?_)
        obtain ⟨rfl, bv190⟩ := r189
        refine g_if_eq (fun c191 => ?_) (fun c191 => ?_)
        · refine g_iconst (by decide) (fun v192 kv192 => ?_)
          refine g_nop ?_
          exact g_iret ⟨_, rfl, rfl⟩
        · refine g_iconst (by decide) (fun v193 kv193 => ?_)
          refine g_goto ?_
          exact g_iret ⟨_, rfl, rfl⟩
      · refine g_aload_n rfl ?_
        refine g_gfr hI hw0 rfl ?_
        refine g_iload_n rfl ?_
        refine g_iaload hI hw5 rfl (by first | with_reducible assumption | omega) (fun v194 ev194 lv194 uv194 => ?_)
        exact g_iret ⟨_, rfl, rfl⟩
      · refine g_aload_n rfl ?_
        refine g_iload_n rfl ?_
        refine g_invvi hI hw0 rfl rfl rfl rfl (s_92 w hw a1 (by first | with_reducible assumption | omega) H hI hJ) (fun v197 H195 r196 => ?_)
        obtain rfl := r196
        exact g_iret ⟨_, rfl, rfl⟩
      · refine g_aload_n rfl ?_
        refine g_iload_n rfl ?_
        refine g_invvi hI hw0 rfl rfl rfl rfl (s_103 w hw a1 H hI hJ) (fun v200 H198 r199 => ?_)
        obtain rfl := r199
        exact g_iret ⟨_, rfl, rfl⟩
    · refine g_nop ?_
      refine g_iload_n rfl ?_
      exact g_iret ⟨_, rfl, rfl⟩
set_option maxRecDepth 4000 in
set_option maxHeartbeats 4000000 in
/-- X8.isSo -/
theorem s_111 (w : Nat) (hw : zWo w) (a1 : Int32) (ha1 : 0 ≤ a1.toInt ∧ a1.toInt ≤ 39) (a2 : Int32) (H : mzH) (hI : gI SX H) (hJ : JX H) : gCall 111 [.ref w, .int a1, .int a2] H (gRi (fun v H' => H = H' ∧ (0 ≤ v.toInt ∧ v.toInt ≤ 1))) := by
  obtain ⟨hwr, hw0, hw1, hw2, hw3, hw4, hw5, hw6⟩ := id hw
  refine gG_call [(0, .ref w), (1, .int a1), (2, .int a2)] ⟨rfl, rfl, rfl, trivial⟩ ?_
  show gG 3 zB_111 (mzBlk zB_111 0) [(0, .ref w), (1, .int a1), (2, .int a2)] [] H 0 0 _
  refine g_iload_n rfl ?_
  refine g_sw (by decide) (fun c153 => ?_) ⟨fun c153 => ?_, fun c153 => ?_, fun c153 => ?_, fun c153 => ?_, fun c153 => ?_, trivial⟩
  · refine g_aload_n rfl ?_
    refine g_iload_n rfl ?_
    refine g_iconst (by decide) (fun v154 kv154 => ?_)
    refine g_invvi hI hw0 rfl rfl rfl rfl (s_85 w hw a1 (by first | with_reducible assumption | omega) v154 H hI hJ) (fun v157 H155 r156 => ?_)
    obtain ⟨rfl, bv157⟩ := r156
    exact g_zret (by first | with_reducible assumption | omega) ⟨_, rfl, rfl, (by first | with_reducible assumption | omega)⟩
  · refine g_aload_n rfl ?_
    refine g_iload_n rfl ?_
    refine g_invvi hI hw0 rfl rfl rfl rfl (s_88 w hw a1 (by first | with_reducible assumption | omega) H hI hJ) (fun v160 H158 r159 => ?_)
    obtain ⟨rfl, bv160⟩ := r159
    exact g_zret (by first | with_reducible assumption | omega) ⟨_, rfl, rfl, (by first | with_reducible assumption | omega)⟩
  · refine g_aload_n rfl ?_
    refine g_iload_n rfl ?_
    refine g_invvi hI hw0 rfl rfl rfl rfl (s_91 w hw a1 (by first | with_reducible assumption | omega) H hI hJ) (fun v163 H161 r162 => ?_)
    obtain rfl := r162
    refine g_bipush (by decide) (fun v164 kv164 => ?_)
    refine g_if2_ne (fun c165 => ?_) (fun c165 => ?_)
    · refine g_iconst (by decide) (fun v166 kv166 => ?_)
      refine g_nop ?_
      exact g_zret (by first | with_reducible assumption | omega) ⟨_, rfl, rfl, (by first | with_reducible assumption | omega)⟩
    · refine g_iconst (by decide) (fun v167 kv167 => ?_)
      refine g_goto ?_
      exact g_zret (by first | with_reducible assumption | omega) ⟨_, rfl, rfl, (by first | with_reducible assumption | omega)⟩
  · refine g_aload_n rfl ?_
    refine g_iload_n rfl ?_
    refine g_iconst (by decide) (fun v168 kv168 => ?_)
    refine g_invvi hI hw0 rfl rfl rfl rfl (s_85 w hw a1 (by first | with_reducible assumption | omega) v168 H hI hJ) (fun v171 H169 r170 => ?_)
    obtain ⟨rfl, bv171⟩ := r170
    exact g_zret (by first | with_reducible assumption | omega) ⟨_, rfl, rfl, (by first | with_reducible assumption | omega)⟩
  · refine g_aload_n rfl ?_
    refine g_iload_n rfl ?_
    refine g_bipush (by decide) (fun v172 kv172 => ?_)
    refine g_invvi hI hw0 rfl rfl rfl rfl (s_85 w hw a1 (by first | with_reducible assumption | omega) v172 H hI hJ) (fun v175 H173 r174 => ?_)
    obtain ⟨rfl, bv175⟩ := r174
    exact g_zret (by first | with_reducible assumption | omega) ⟨_, rfl, rfl, (by first | with_reducible assumption | omega)⟩
  · refine g_aload_n rfl ?_
    refine g_iload_n rfl ?_
    refine g_invvi hI hw0 rfl rfl rfl rfl (s_88 w hw a1 (by first | with_reducible assumption | omega) H hI hJ) (fun v178 H176 r177 => ?_)
    obtain ⟨rfl, bv178⟩ := r177
    refine g_if_eq (fun c179 => ?_) (fun c179 => ?_)
    · refine g_iconst (by decide) (fun v180 kv180 => ?_)
      refine g_nop ?_
      exact g_zret (by first | with_reducible assumption | omega) ⟨_, rfl, rfl, (by first | with_reducible assumption | omega)⟩
    · refine g_aload_n rfl ?_
      refine g_gfr hI hw0 rfl ?_
      refine g_iload_n rfl ?_
      refine g_iaload hI hw2 rfl (by first | with_reducible assumption | omega) (fun v181 ev181 lv181 uv181 => ?_)
      refine g_if_ge (fun c182 => ?_) (fun c182 => ?_)
      · refine g_iconst (by decide) (fun v183 kv183 => ?_)
        refine g_nop ?_
        exact g_zret (by first | with_reducible assumption | omega) ⟨_, rfl, rfl, (by first | with_reducible assumption | omega)⟩
      · refine g_aload_n rfl ?_
        refine g_iload_n rfl ?_
        refine g_iconst (by decide) (fun v184 kv184 => ?_)
        refine g_invvi hI hw0 rfl rfl rfl rfl (s_85 w hw a1 (by first | with_reducible assumption | omega) v184 H hI hJ) (fun v187 H185 r186 => ?_)
        obtain ⟨rfl, bv187⟩ := r186
        refine g_if_ne (fun c188 => ?_) (fun c188 => ?_)
        · refine g_iconst (by decide) (fun v189 kv189 => ?_)
          refine g_nop ?_
          exact g_zret (by first | with_reducible assumption | omega) ⟨_, rfl, rfl, (by first | with_reducible assumption | omega)⟩
        · refine g_iconst (by decide) (fun v190 kv190 => ?_)
          refine g_goto ?_
          exact g_zret (by first | with_reducible assumption | omega) ⟨_, rfl, rfl, (by first | with_reducible assumption | omega)⟩
set_option maxRecDepth 4000 in
set_option maxHeartbeats 4000000 in
/-- X8.tally -/
theorem s_110 (w : Nat) (hw : zWo w) (a1 : Int32) (H : mzH) (hI : gI SX H) (hJ : JX H) : gCall 110 [.ref w, .int a1] H (gRi (fun v H' => H = H')) := by
  obtain ⟨hwr, hw0, hw1, hw2, hw3, hw4, hw5, hw6⟩ := id hw
  refine gG_call [(0, .ref w), (1, .int a1)] ⟨rfl, rfl, trivial⟩ ?_
  show gG 4 zB_110 (mzBlk zB_110 0) [(0, .ref w), (1, .int a1)] [] H 0 0 _
  refine g_iconst (by decide) (fun v459 kv459 => ?_)
  refine g_istore_n (l' := [(0, .ref w), (1, .int a1), (2, .int v459)]) rfl rfl ?_
  refine g_iconst (by decide) (fun v460 kv460 => ?_)
  refine g_istore_n (l' := [(0, .ref w), (1, .int a1), (2, .int v459), (3, .int v460)]) rfl rfl ?_
  refine g_nop ?_
  have L463 : ∀ (N : Nat) (v461 : Int32) (v462 : Int32), (0 ≤ v462.toInt ∧ v462.toInt ≤ 40) → (40 - v462.toInt).toNat < N → gG 4 zB_110 (mzBlk zB_110 1) [(0, .ref w), (1, .int a1), (2, .int v461), (3, .int v462)] [] H 0 0 (gRi (fun v H' => H = H')) := by
    intro N
    induction N with
    | zero => intro v461 v462 bv462 hmL463; exact absurd hmL463 (Nat.not_lt_zero _)
    | succ N ihL463 =>
      intro v461 v462 bv462 hmL463
      refine g_iload_n rfl ?_
      refine g_bipush (by decide) (fun v464 kv464 => ?_)
      refine g_if2_ge (fun c465 => ?_) (fun c465 => ?_)
      · refine g_iload_n rfl ?_
        exact g_iret ⟨_, rfl, rfl⟩
      · refine g_iload_n rfl ?_
        refine g_aload_n rfl ?_
        refine g_iload_n rfl ?_
        refine g_iload_n rfl ?_
        refine g_invvi hI hw0 rfl rfl rfl rfl (s_111 w hw v462 (by first | with_reducible assumption | omega) a1 H hI hJ) (fun v468 H466 r467 => ?_)
        obtain ⟨rfl, bv468⟩ := r467
        refine g_if_eq (fun c469 => ?_) (fun c469 => ?_)
        · refine g_iconst (by decide) (fun v470 kv470 => ?_)
          refine g_nop ?_
          refine g_iadd (by have := gz_any v461; omega) (fun v471 ev471 => ?_)
          refine g_istore_n (l' := [(0, .ref w), (1, .int a1), (2, .int v471), (3, .int v462)]) rfl rfl ?_
          refine g_iinc (l' := (fun v472 => [(0, .ref w), (1, .int a1), (2, .int v471), (3, .int v472)])) rfl rfl (by decide) (by first | with_reducible assumption | omega) (fun _ => rfl) (fun v472 ev472 => ?_)
          refine g_goto ?_
          exact ihL463 v471 v472 (by first | with_reducible assumption | omega) (by first | with_reducible assumption | omega)
        · refine g_iconst (by decide) (fun v473 kv473 => ?_)
          refine g_goto ?_
          refine g_iadd' (fun v474 ov474 => ?_)
          refine g_istore_n (l' := [(0, .ref w), (1, .int a1), (2, .int v474), (3, .int v462)]) rfl rfl ?_
          refine g_iinc (l' := (fun v475 => [(0, .ref w), (1, .int a1), (2, .int v474), (3, .int v475)])) rfl rfl (by decide) (by first | with_reducible assumption | omega) (fun _ => rfl) (fun v475 ev475 => ?_)
          refine g_goto ?_
          exact ihL463 v474 v475 (by first | with_reducible assumption | omega) (by first | with_reducible assumption | omega)
  exact L463 _ v459 v460 (by first | with_reducible assumption | omega) (Nat.lt_succ_self _)
set_option maxRecDepth 4000 in
set_option maxHeartbeats 4000000 in
/-- X9.fault -/
theorem s_117 (a1 : Int32) (H : mzH) (hI : gI SX H) (hJ : JX H) : gCall 117 [.ref 0, .int a1] H (gRi (fun v H' => H = H')) := by
  refine gG_call [(0, .ref 0), (1, .int a1)] ⟨rfl, rfl, trivial⟩ ?_
  show gG 2 zB_117 (mzBlk zB_117 0) [(0, .ref 0), (1, .int a1)] [] H 0 0 _
  refine g_iload_n rfl ?_
  refine g_if_ne (fun c25 => ?_) (fun c25 => ?_)
  · refine g_iload_n rfl ?_
    refine g_iconst (by decide) (fun v26 kv26 => ?_)
    refine g_if2_ne (fun c27 => ?_) (fun c27 => ?_)
    · refine g_iconst (by decide) (fun v28 kv28 => ?_)
      refine g_nop ?_
      exact g_iret ⟨_, rfl, rfl⟩
    · refine g_aload_n rfl ?_
      refine g_gfr hI sx_0 rfl ?_
      refine g_gfi hI sx_19 rfl (fun v29 ev29 lv29 uv29 => ?_)
      refine g_goto ?_
      exact g_iret ⟨_, rfl, rfl⟩
  · refine g_aload_n rfl ?_
    refine g_gfr hI sx_0 rfl ?_
    refine g_gfi hI sx_19 rfl (fun v30 ev30 lv30 uv30 => ?_)
    exact g_iret ⟨_, rfl, rfl⟩
set_option maxRecDepth 4000 in
set_option maxHeartbeats 4000000 in
/-- X9.hours -/
theorem s_118 (a1 : Int32) (a2 : Int32) (H : mzH) (hI : gI SX H) (hJ : JX H) : gCall 118 [.ref 0, .int a1, .int a2] H (gRi (fun v H' => H = H')) := by
  refine gG_call [(0, .ref 0), (1, .int a1), (2, .int a2)] ⟨rfl, rfl, rfl, trivial⟩ ?_
  show gG 3 zB_118 (mzBlk zB_118 0) [(0, .ref 0), (1, .int a1), (2, .int a2)] [] H 0 0 _
  refine g_aload_n rfl ?_
  refine g_gfr hI sx_0 rfl ?_
  refine g_iload_n rfl ?_
  refine g_invvi hI sx_3 rfl rfl rfl rfl (s_11 3 zBo_3 a1 H hI hJ) (fun v63 H61 r62 => ?_)
  obtain ⟨rfl, bv63, p64⟩ := r62
  refine g_if_eq (fun c65 => ?_) (fun c65 => ?_)
  · refine g_iconst (by decide) (fun v66 kv66 => ?_)
    exact g_iret ⟨_, rfl, rfl⟩
  · refine g_aload_n rfl ?_
    refine g_gfr hI sx_0 rfl ?_
    refine g_iload_n rfl ?_
    refine g_invvi hI sx_3 rfl rfl rfl rfl (s_11 3 zBo_3 a2 H hI hJ) (fun v69 H67 r68 => ?_)
    obtain ⟨rfl, bv69, p70⟩ := r68
    refine g_if_ne (fun c71 => ?_) (fun c71 => ?_)
    · refine g_aload_n rfl ?_
      refine g_gfr hI sx_0 rfl ?_
      refine g_iload_n rfl ?_
      refine g_iload_n rfl ?_
      refine g_invvi hI sx_3 rfl rfl rfl rfl (s_17 3 zBo_3 a1 a2 H hI hJ) (fun v74 H72 r73 => ?_)
      obtain rfl := r73
      exact g_iret ⟨_, rfl, rfl⟩
    · refine g_nop ?_
      refine g_iconst (by decide) (fun v75 kv75 => ?_)
      exact g_iret ⟨_, rfl, rfl⟩
set_option maxRecDepth 4000 in
set_option maxHeartbeats 4000000 in
/-- X9.isThing -/
theorem s_149 (a0 : Int32) (H : mzH) (hI : gI SX H) (hJ : JX H) : gCall 149 [.int a0] H (gRi (fun v H' => H = H' ∧ (0 ≤ v.toInt ∧ v.toInt ≤ 1) ∧ (v.toInt = 0 ∨ (0 ≤ a0.toInt ∧ a0.toInt ≤ 39)))) := by
  refine gG_call [(0, .int a0)] ⟨rfl, trivial⟩ ?_
  show gG 1 zB_149 (mzBlk zB_149 0) [(0, .int a0)] [] H 0 0 _
  refine g_iload_n rfl ?_
  refine g_if_lt (fun c25 => ?_) (fun c25 => ?_)
  · refine g_iconst (by decide) (fun v26 kv26 => ?_)
    refine g_nop ?_
    exact g_zret (by first | with_reducible assumption | omega) ⟨_, rfl, rfl, (by first | with_reducible assumption | omega), (by first | with_reducible assumption | omega)⟩
  · refine g_iload_n rfl ?_
    refine g_bipush (by decide) (fun v27 kv27 => ?_)
    refine g_if2_ge (fun c28 => ?_) (fun c28 => ?_)
    · refine g_iconst (by decide) (fun v29 kv29 => ?_)
      refine g_nop ?_
      exact g_zret (by first | with_reducible assumption | omega) ⟨_, rfl, rfl, (by first | with_reducible assumption | omega), (by first | with_reducible assumption | omega)⟩
    · refine g_iconst (by decide) (fun v30 kv30 => ?_)
      refine g_goto ?_
      exact g_zret (by first | with_reducible assumption | omega) ⟨_, rfl, rfl, (by first | with_reducible assumption | omega), (by first | with_reducible assumption | omega)⟩
set_option maxRecDepth 4000 in
set_option maxHeartbeats 4000000 in
/-- X9.isHour -/
theorem s_150 (a0 : Int32) (H : mzH) (hI : gI SX H) (hJ : JX H) : gCall 150 [.int a0] H (gRi (fun v H' => H = H' ∧ (0 ≤ v.toInt ∧ v.toInt ≤ 1) ∧ (v.toInt = 0 ∨ (0 ≤ a0.toInt ∧ a0.toInt ≤ 999)))) := by
  refine gG_call [(0, .int a0)] ⟨rfl, trivial⟩ ?_
  show gG 1 zB_150 (mzBlk zB_150 0) [(0, .int a0)] [] H 0 0 _
  refine g_iload_n rfl ?_
  refine g_if_lt (fun c25 => ?_) (fun c25 => ?_)
  · refine g_iconst (by decide) (fun v26 kv26 => ?_)
    refine g_nop ?_
    exact g_zret (by first | with_reducible assumption | omega) ⟨_, rfl, rfl, (by first | with_reducible assumption | omega), (by first | with_reducible assumption | omega)⟩
  · refine g_iload_n rfl ?_
    refine g_sipush (by decide) (fun v27 kv27 => ?_)
    refine g_if2_gt (fun c28 => ?_) (fun c28 => ?_)
    · refine g_iconst (by decide) (fun v29 kv29 => ?_)
      refine g_nop ?_
      exact g_zret (by first | with_reducible assumption | omega) ⟨_, rfl, rfl, (by first | with_reducible assumption | omega), (by first | with_reducible assumption | omega)⟩
    · refine g_iconst (by decide) (fun v30 kv30 => ?_)
      refine g_goto ?_
      exact g_zret (by first | with_reducible assumption | omega) ⟨_, rfl, rfl, (by first | with_reducible assumption | omega), (by first | with_reducible assumption | omega)⟩
set_option maxRecDepth 4000 in
set_option maxHeartbeats 4000000 in
/-- X9.thing -/
theorem s_120 (a1 : Int32) (a2 : Int32) (a3 : Int32) (H : mzH) (hI : gI SX H) (hJ : JX H) : gCall 120 [.ref 0, .int a1, .int a2, .int a3] H (gRi (fun v H' => gI SX H' ∧ JX H' ∧ fZ H' 1 1 = fZ H 1 1 ∧ kpX H H')) := by
  obtain ⟨k1_1, ek1_1⟩ : ∃ z, z = fZ H 1 1 := ⟨_, rfl⟩
  have ik1_1 : k1_1.toInt = (fZ H 1 1).toInt := by rw [← ek1_1]
  have bk1_1 : 0 ≤ k1_1.toInt ∧ k1_1.toInt ≤ 900 := by rw [ek1_1]; exact fZ_of hI sx_1 rfl
  have mkfr : kpX H H := kpX_r
  refine gG_call [(0, .ref 0), (1, .int a1), (2, .int a2), (3, .int a3)] ⟨rfl, rfl, rfl, rfl, trivial⟩ ?_
  show gG 4 zB_120 (mzBlk zB_120 0) [(0, .ref 0), (1, .int a1), (2, .int a2), (3, .int a3)] [] H 0 0 _
  refine g_iload_n rfl ?_
  refine g_invti rfl rfl rfl (s_149 a1 H hI hJ) (fun v107 H105 r106 => ?_)
  obtain ⟨rfl, bv107, p108⟩ := r106
  refine g_if_eq (fun c109 => ?_) (fun c109 => ?_)
  · refine g_iconst (by decide) (fun v110 kv110 => ?_)
    exact g_iret ⟨_, rfl, hI, hJ, (ek1_1.symm.trans ek1_1), mkfr⟩
  · refine g_iload_n rfl ?_
    refine g_invti rfl rfl rfl (s_150 a2 H hI hJ) (fun v113 H111 r112 => ?_)
    obtain ⟨rfl, bv113, p114⟩ := r112
    refine g_if_eq (fun c115 => ?_) (fun c115 => ?_)
    · refine g_iconst (by decide) (fun v116 kv116 => ?_)
      exact g_iret ⟨_, rfl, hI, hJ, (ek1_1.symm.trans ek1_1), mkfr⟩
    · refine g_iload_n rfl ?_
      refine g_if_lt (fun c117 => ?_) (fun c117 => ?_)
      · refine g_iconst (by decide) (fun v118 kv118 => ?_)
        exact g_iret ⟨_, rfl, hI, hJ, (ek1_1.symm.trans ek1_1), mkfr⟩
      · refine g_iload_n rfl ?_
        refine g_bipush (by decide) (fun v119 kv119 => ?_)
        refine g_if2_le (fun c120 => ?_) (fun c120 => ?_)
        · refine g_aload_n rfl ?_
          refine g_gfr hI sx_0 rfl ?_
          refine g_iload_n rfl ?_
          refine g_invva hI sx_24 rfl rfl rfl rfl (s_55 a2 H hI hJ) (fun H121 r122 => ?_)
          obtain ⟨hIH121, hJH121, w123, m124⟩ := r122
          have e125 : k1_1 = fZ H121 1 1 := ek1_1.trans w123.symm
          have m126 : kpX H H121 := kpX_t mkfr m124
          refine g_iload_n rfl ?_
          refine g_iload_n rfl ?_
          refine g_invvi hIH121 sx_28 rfl rfl rfl rfl (s_109 28 zWo_28 a1 (by first | with_reducible assumption | omega) a3 H121 hIH121 hJH121) (fun v129 H127 r128 => ?_)
          obtain rfl := r128
          exact g_iret ⟨_, rfl, hIH121, hJH121, (e125.symm.trans ek1_1), m126⟩
        · refine g_nop ?_
          refine g_iconst (by decide) (fun v130 kv130 => ?_)
          exact g_iret ⟨_, rfl, hI, hJ, (ek1_1.symm.trans ek1_1), mkfr⟩
set_option maxRecDepth 4000 in
set_option maxHeartbeats 4000000 in
/-- X9.pick -/
theorem s_153 (a0 : Int64) (a1 : Int32) (H : mzH) (hI : gI SX H) (hJ : JX H) : gCall 153 [.long a0, .int a1] H (gRi (fun v H' => H = H')) := by
  refine gG_call [(0, .long a0), (2, .int a1)] ⟨rfl, rfl, trivial⟩ ?_
  show gG 5 zB_153 (mzBlk zB_153 0) [(0, .long a0), (2, .int a1)] [] H 0 0 _
  refine g_iconst (by decide) (fun v506 kv506 => ?_)
  refine g_istore_n (l' := [(0, .long a0), (2, .int a1), (3, .int v506)]) rfl rfl ?_
  refine g_iconst (by decide) (fun v507 kv507 => ?_)
  refine g_istore (l' := [(0, .long a0), (2, .int a1), (3, .int v506), (4, .int v507)]) rfl rfl ?_
  refine g_nop ?_
  have L510 : ∀ (N : Nat) (v508 : Int32) (v509 : Int32), (0 ≤ v509.toInt ∧ v509.toInt ≤ 64) → (64 - v509.toInt).toNat < N → gG 5 zB_153 (mzBlk zB_153 1) [(0, .long a0), (2, .int a1), (3, .int v508), (4, .int v509)] [] H 0 0 (gRi (fun v H' => H = H')) := by
    intro N
    induction N with
    | zero => intro v508 v509 bv509 hmL510; exact absurd hmL510 (Nat.not_lt_zero _)
    | succ N ihL510 =>
      intro v508 v509 bv509 hmL510
      refine g_iload rfl ?_
      refine g_bipush (by decide) (fun v511 kv511 => ?_)
      refine g_if2_ge (fun c512 => ?_) (fun c512 => ?_)
      · refine g_bipush (by decide) (fun v513 kv513 => ?_)
        exact g_iret ⟨_, rfl, rfl⟩
      · refine g_lload_n rfl ?_
        refine g_iload rfl ?_
        refine g_lushr (fun v514 _ => ?_)
        refine g_lconst (fun v515 _ => ?_)
        refine g_land (fun v516 _ => ?_)
        refine g_lconst (fun v517 _ => ?_)
        refine g_lcmp (fun v518 _ => ?_)
        refine g_if_eq (fun c519 => ?_) (fun c519 => ?_)
        · refine g_iinc (l' := (fun v520 => [(0, .long a0), (2, .int a1), (3, .int v508), (4, .int v520)])) rfl rfl (by decide) (by first | with_reducible assumption | omega) (fun _ => rfl) (fun v520 ev520 => ?_)
          refine g_goto ?_
          exact ihL510 v508 v520 (by first | with_reducible assumption | omega) (by first | with_reducible assumption | omega)
        · refine g_iload_n rfl ?_
          refine g_iload_n rfl ?_
          refine g_if2_ne (fun c521 => ?_) (fun c521 => ?_)
          · refine g_iinc' (l' := (fun v522 => [(0, .long a0), (2, .int a1), (3, .int v522), (4, .int v509)])) rfl rfl (fun _ => rfl) (fun v522 => ?_)
            refine g_nop ?_
            refine g_iinc (l' := (fun v523 => [(0, .long a0), (2, .int a1), (3, .int v522), (4, .int v523)])) rfl rfl (by decide) (by first | with_reducible assumption | omega) (fun _ => rfl) (fun v523 ev523 => ?_)
            refine g_goto ?_
            exact ihL510 v522 v523 (by first | with_reducible assumption | omega) (by first | with_reducible assumption | omega)
          · refine g_iload rfl ?_
            exact g_iret ⟨_, rfl, rfl⟩
  exact L510 _ v506 v507 (by first | with_reducible assumption | omega) (Nat.lt_succ_self _)
set_option maxRecDepth 4000 in
set_option maxHeartbeats 4000000 in
/-- X9.inside -/
theorem s_121 (a1 : Int32) (a2 : Int32) (a3 : Int32) (H : mzH) (hI : gI SX H) (hJ : JX H) : gCall 121 [.ref 0, .int a1, .int a2, .int a3] H (gRi (fun v H' => gI SX H' ∧ JX H' ∧ fZ H' 1 1 = fZ H 1 1 ∧ kpX H H')) := by
  obtain ⟨k1_1, ek1_1⟩ : ∃ z, z = fZ H 1 1 := ⟨_, rfl⟩
  have ik1_1 : k1_1.toInt = (fZ H 1 1).toInt := by rw [← ek1_1]
  have bk1_1 : 0 ≤ k1_1.toInt ∧ k1_1.toInt ≤ 900 := by rw [ek1_1]; exact fZ_of hI sx_1 rfl
  have mkfr : kpX H H := kpX_r
  refine gG_call [(0, .ref 0), (1, .int a1), (2, .int a2), (3, .int a3)] ⟨rfl, rfl, rfl, rfl, trivial⟩ ?_
  show gG 4 zB_121 (mzBlk zB_121 0) [(0, .ref 0), (1, .int a1), (2, .int a2), (3, .int a3)] [] H 0 0 _
  refine g_iload_n rfl ?_
  refine g_invti rfl rfl rfl (s_149 a1 H hI hJ) (fun v107 H105 r106 => ?_)
  obtain ⟨rfl, bv107, p108⟩ := r106
  refine g_if_eq (fun c109 => ?_) (fun c109 => ?_)
  · refine g_iconst (by decide) (fun v110 kv110 => ?_)
    exact g_iret ⟨_, rfl, hI, hJ, (ek1_1.symm.trans ek1_1), mkfr⟩
  · refine g_iload_n rfl ?_
    refine g_invti rfl rfl rfl (s_150 a2 H hI hJ) (fun v113 H111 r112 => ?_)
    obtain ⟨rfl, bv113, p114⟩ := r112
    refine g_if_eq (fun c115 => ?_) (fun c115 => ?_)
    · refine g_iconst (by decide) (fun v116 kv116 => ?_)
      exact g_iret ⟨_, rfl, hI, hJ, (ek1_1.symm.trans ek1_1), mkfr⟩
    · refine g_iload_n rfl ?_
      refine g_if_ge (fun c117 => ?_) (fun c117 => ?_)
      · refine g_aload_n rfl ?_
        refine g_gfr hI sx_0 rfl ?_
        refine g_iload_n rfl ?_
        refine g_invva hI sx_24 rfl rfl rfl rfl (s_55 a2 H hI hJ) (fun H118 r119 => ?_)
        obtain ⟨hIH118, hJH118, w120, m121⟩ := r119
        have e122 : k1_1 = fZ H118 1 1 := ek1_1.trans w120.symm
        have m123 : kpX H H118 := kpX_t mkfr m121
        refine g_iload_n rfl ?_
        refine g_invvl hIH118 sx_28 rfl rfl rfl rfl (s_104 28 zWo_28 a1 H118 hIH118 hJH118) (fun v126 H124 r125 => ?_)
        obtain rfl := r125
        refine g_iload_n rfl ?_
        refine g_invti rfl rfl rfl (s_153 v126 a3 H118 hIH118 hJH118) (fun v129 H127 r128 => ?_)
        obtain rfl := r128
        exact g_iret ⟨_, rfl, hIH118, hJH118, (e122.symm.trans ek1_1), m123⟩
      · refine g_nop ?_
        refine g_iconst (by decide) (fun v130 kv130 => ?_)
        exact g_iret ⟨_, rfl, hI, hJ, (ek1_1.symm.trans ek1_1), mkfr⟩
set_option maxRecDepth 4000 in
set_option maxHeartbeats 4000000 in
/-- X9.isPlaceOrSold -/
theorem s_151 (a1 : Int32) (H : mzH) (hI : gI SX H) (hJ : JX H) : gCall 151 [.ref 0, .int a1] H (gRi (fun v H' => H = H' ∧ (0 ≤ v.toInt ∧ v.toInt ≤ 1))) := by
  refine gG_call [(0, .ref 0), (1, .int a1)] ⟨rfl, rfl, trivial⟩ ?_
  show gG 2 zB_151 (mzBlk zB_151 0) [(0, .ref 0), (1, .int a1)] [] H 0 0 _
  refine g_iload_n rfl ?_
  refine g_bipush (by decide) (fun v41 kv41 => ?_)
  refine g_if2_eq (fun c42 => ?_) (fun c42 => ?_)
  · refine g_iconst (by decide) (fun v43 kv43 => ?_)
    refine g_goto ?_
    exact g_zret (by first | with_reducible assumption | omega) ⟨_, rfl, rfl, (by first | with_reducible assumption | omega)⟩
  · refine g_aload_n rfl ?_
    refine g_gfr hI sx_0 rfl ?_
    refine g_iload_n rfl ?_
    refine g_invvi hI sx_3 rfl rfl rfl rfl (s_11 3 zBo_3 a1 H hI hJ) (fun v46 H44 r45 => ?_)
    obtain ⟨rfl, bv46, p47⟩ := r45
    refine g_if_eq (fun c48 => ?_) (fun c48 => ?_)
    · refine g_iconst (by decide) (fun v49 kv49 => ?_)
      refine g_nop ?_
      exact g_zret (by first | with_reducible assumption | omega) ⟨_, rfl, rfl, (by first | with_reducible assumption | omega)⟩
    · refine g_nop ?_
      refine g_iconst (by decide) (fun v50 kv50 => ?_)
      refine g_goto ?_
      exact g_zret (by first | with_reducible assumption | omega) ⟨_, rfl, rfl, (by first | with_reducible assumption | omega)⟩
set_option maxRecDepth 4000 in
set_option maxHeartbeats 4000000 in
/-- X9.isWhereabouts -/
theorem s_152 (a1 : Int32) (H : mzH) (hI : gI SX H) (hJ : JX H) : gCall 152 [.ref 0, .int a1] H (gRi (fun v H' => H = H' ∧ (0 ≤ v.toInt ∧ v.toInt ≤ 1))) := by
  refine gG_call [(0, .ref 0), (1, .int a1)] ⟨rfl, rfl, trivial⟩ ?_
  show gG 2 zB_152 (mzBlk zB_152 0) [(0, .ref 0), (1, .int a1)] [] H 0 0 _
  refine g_iload_n rfl ?_
  refine g_bipush (by decide) (fun v37 kv37 => ?_)
  refine g_if2_eq (fun c38 => ?_) (fun c38 => ?_)
  · refine g_iconst (by decide) (fun v39 kv39 => ?_)
    refine g_goto ?_
    exact g_zret (by first | with_reducible assumption | omega) ⟨_, rfl, rfl, (by first | with_reducible assumption | omega)⟩
  · refine g_aload_n rfl ?_
    refine g_iload_n rfl ?_
    refine g_invvi hI sx_0 rfl rfl rfl rfl (s_151 a1 H hI hJ) (fun v42 H40 r41 => ?_)
    obtain ⟨rfl, bv42⟩ := r41
    refine g_if_eq (fun c43 => ?_) (fun c43 => ?_)
    · refine g_iconst (by decide) (fun v44 kv44 => ?_)
      refine g_nop ?_
      exact g_zret (by first | with_reducible assumption | omega) ⟨_, rfl, rfl, (by first | with_reducible assumption | omega)⟩
    · refine g_nop ?_
      refine g_iconst (by decide) (fun v45 kv45 => ?_)
      refine g_goto ?_
      exact g_zret (by first | with_reducible assumption | omega) ⟨_, rfl, rfl, (by first | with_reducible assumption | omega)⟩
set_option maxRecDepth 4000 in
set_option maxHeartbeats 4000000 in
/-- X9.there -/
theorem s_122 (a1 : Int32) (a2 : Int32) (a3 : Int32) (H : mzH) (hI : gI SX H) (hJ : JX H) : gCall 122 [.ref 0, .int a1, .int a2, .int a3] H (gRi (fun v H' => gI SX H' ∧ JX H' ∧ fZ H' 1 1 = fZ H 1 1 ∧ kpX H H')) := by
  obtain ⟨k1_1, ek1_1⟩ : ∃ z, z = fZ H 1 1 := ⟨_, rfl⟩
  have ik1_1 : k1_1.toInt = (fZ H 1 1).toInt := by rw [← ek1_1]
  have bk1_1 : 0 ≤ k1_1.toInt ∧ k1_1.toInt ≤ 900 := by rw [ek1_1]; exact fZ_of hI sx_1 rfl
  have mkfr : kpX H H := kpX_r
  refine gG_call [(0, .ref 0), (1, .int a1), (2, .int a2), (3, .int a3)] ⟨rfl, rfl, rfl, rfl, trivial⟩ ?_
  show gG 4 zB_122 (mzBlk zB_122 0) [(0, .ref 0), (1, .int a1), (2, .int a2), (3, .int a3)] [] H 0 0 _
  refine g_aload_n rfl ?_
  refine g_iload_n rfl ?_
  refine g_invvi hI sx_0 rfl rfl rfl rfl (s_152 a1 H hI hJ) (fun v103 H101 r102 => ?_)
  obtain ⟨rfl, bv103⟩ := r102
  refine g_if_eq (fun c104 => ?_) (fun c104 => ?_)
  · refine g_iconst (by decide) (fun v105 kv105 => ?_)
    exact g_iret ⟨_, rfl, hI, hJ, (ek1_1.symm.trans ek1_1), mkfr⟩
  · refine g_iload_n rfl ?_
    refine g_invti rfl rfl rfl (s_150 a2 H hI hJ) (fun v108 H106 r107 => ?_)
    obtain ⟨rfl, bv108, p109⟩ := r107
    refine g_if_eq (fun c110 => ?_) (fun c110 => ?_)
    · refine g_iconst (by decide) (fun v111 kv111 => ?_)
      exact g_iret ⟨_, rfl, hI, hJ, (ek1_1.symm.trans ek1_1), mkfr⟩
    · refine g_iload_n rfl ?_
      refine g_if_ge (fun c112 => ?_) (fun c112 => ?_)
      · refine g_aload_n rfl ?_
        refine g_gfr hI sx_0 rfl ?_
        refine g_iload_n rfl ?_
        refine g_invva hI sx_24 rfl rfl rfl rfl (s_55 a2 H hI hJ) (fun H113 r114 => ?_)
        obtain ⟨hIH113, hJH113, w115, m116⟩ := r114
        have e117 : k1_1 = fZ H113 1 1 := ek1_1.trans w115.symm
        have m118 : kpX H H113 := kpX_t mkfr m116
        refine g_iload_n rfl ?_
        refine g_invvl hIH113 sx_28 rfl rfl rfl rfl (s_105 28 zWo_28 a1 H113 hIH113 hJH113) (fun v121 H119 r120 => ?_)
        obtain rfl := r120
        refine g_iload_n rfl ?_
        refine g_invti rfl rfl rfl (s_153 v121 a3 H113 hIH113 hJH113) (fun v124 H122 r123 => ?_)
        obtain rfl := r123
        exact g_iret ⟨_, rfl, hIH113, hJH113, (e117.symm.trans ek1_1), m118⟩
      · refine g_nop ?_
        refine g_iconst (by decide) (fun v125 kv125 => ?_)
        exact g_iret ⟨_, rfl, hI, hJ, (ek1_1.symm.trans ek1_1), mkfr⟩
set_option maxRecDepth 4000 in
set_option maxHeartbeats 4000000 in
/-- X9.many -/
theorem s_123 (a1 : Int32) (a2 : Int32) (H : mzH) (hI : gI SX H) (hJ : JX H) : gCall 123 [.ref 0, .int a1, .int a2] H (gRi (fun v H' => gI SX H' ∧ JX H' ∧ fZ H' 1 1 = fZ H 1 1 ∧ kpX H H')) := by
  obtain ⟨k1_1, ek1_1⟩ : ∃ z, z = fZ H 1 1 := ⟨_, rfl⟩
  have ik1_1 : k1_1.toInt = (fZ H 1 1).toInt := by rw [← ek1_1]
  have bk1_1 : 0 ≤ k1_1.toInt ∧ k1_1.toInt ≤ 900 := by rw [ek1_1]; exact fZ_of hI sx_1 rfl
  have mkfr : kpX H H := kpX_r
  refine gG_call [(0, .ref 0), (1, .int a1), (2, .int a2)] ⟨rfl, rfl, rfl, trivial⟩ ?_
  show gG 3 zB_123 (mzBlk zB_123 0) [(0, .ref 0), (1, .int a1), (2, .int a2)] [] H 0 0 _
  refine g_iload_n rfl ?_
  refine g_invti rfl rfl rfl (s_150 a1 H hI hJ) (fun v83 H81 r82 => ?_)
  obtain ⟨rfl, bv83, p84⟩ := r82
  refine g_if_eq (fun c85 => ?_) (fun c85 => ?_)
  · refine g_iconst (by decide) (fun v86 kv86 => ?_)
    exact g_iret ⟨_, rfl, hI, hJ, (ek1_1.symm.trans ek1_1), mkfr⟩
  · refine g_iload_n rfl ?_
    refine g_if_lt (fun c87 => ?_) (fun c87 => ?_)
    · refine g_iconst (by decide) (fun v88 kv88 => ?_)
      exact g_iret ⟨_, rfl, hI, hJ, (ek1_1.symm.trans ek1_1), mkfr⟩
    · refine g_iload_n rfl ?_
      refine g_iconst (by decide) (fun v89 kv89 => ?_)
      refine g_if2_le (fun c90 => ?_) (fun c90 => ?_)
      · refine g_aload_n rfl ?_
        refine g_gfr hI sx_0 rfl ?_
        refine g_iload_n rfl ?_
        refine g_invva hI sx_24 rfl rfl rfl rfl (s_55 a1 H hI hJ) (fun H91 r92 => ?_)
        obtain ⟨hIH91, hJH91, w93, m94⟩ := r92
        have e95 : k1_1 = fZ H91 1 1 := ek1_1.trans w93.symm
        have m96 : kpX H H91 := kpX_t mkfr m94
        refine g_iload_n rfl ?_
        refine g_invvi hIH91 sx_28 rfl rfl rfl rfl (s_110 28 zWo_28 a2 H91 hIH91 hJH91) (fun v99 H97 r98 => ?_)
        obtain rfl := r98
        exact g_iret ⟨_, rfl, hIH91, hJH91, (e95.symm.trans ek1_1), m96⟩
      · refine g_nop ?_
        refine g_iconst (by decide) (fun v100 kv100 => ?_)
        exact g_iret ⟨_, rfl, hI, hJ, (ek1_1.symm.trans ek1_1), mkfr⟩
set_option maxRecDepth 4000 in
set_option maxHeartbeats 4000000 in
/-- X9.trail -/
theorem s_124 (a1 : Int32) (a2 : Int32) (a3 : Int32) (H : mzH) (hI : gI SX H) (hJ : JX H) : gCall 124 [.ref 0, .int a1, .int a2, .int a3] H (gRi (fun v H' => gI SX H' ∧ JX H' ∧ fZ H' 1 1 = fZ H 1 1 ∧ kpX H H')) := by
  obtain ⟨k1_1, ek1_1⟩ : ∃ z, z = fZ H 1 1 := ⟨_, rfl⟩
  have ik1_1 : k1_1.toInt = (fZ H 1 1).toInt := by rw [← ek1_1]
  have bk1_1 : 0 ≤ k1_1.toInt ∧ k1_1.toInt ≤ 900 := by rw [ek1_1]; exact fZ_of hI sx_1 rfl
  have mkfr : kpX H H := kpX_r
  refine gG_call [(0, .ref 0), (1, .int a1), (2, .int a2), (3, .int a3)] ⟨rfl, rfl, rfl, rfl, trivial⟩ ?_
  show gG 4 zB_124 (mzBlk zB_124 0) [(0, .ref 0), (1, .int a1), (2, .int a2), (3, .int a3)] [] H 0 0 _
  refine g_iload_n rfl ?_
  refine g_invti rfl rfl rfl (s_149 a1 H hI hJ) (fun v123 H121 r122 => ?_)
  obtain ⟨rfl, bv123, p124⟩ := r122
  refine g_if_eq (fun c125 => ?_) (fun c125 => ?_)
  · refine g_bipush (by decide) (fun v126 kv126 => ?_)
    exact g_iret ⟨_, rfl, hI, hJ, (ek1_1.symm.trans ek1_1), mkfr⟩
  · refine g_iload_n rfl ?_
    refine g_if_lt (fun c127 => ?_) (fun c127 => ?_)
    · refine g_bipush (by decide) (fun v128 kv128 => ?_)
      exact g_iret ⟨_, rfl, hI, hJ, (ek1_1.symm.trans ek1_1), mkfr⟩
    · refine g_iload_n rfl ?_
      refine g_if_lt (fun c129 => ?_) (fun c129 => ?_)
      · refine g_bipush (by decide) (fun v130 kv130 => ?_)
        exact g_iret ⟨_, rfl, hI, hJ, (ek1_1.symm.trans ek1_1), mkfr⟩
      · refine g_iload_n rfl ?_
        refine g_iconst (by decide) (fun v131 kv131 => ?_)
        refine g_if2_le (fun c132 => ?_) (fun c132 => ?_)
        · refine g_aload_n rfl ?_
          refine g_gfr hI sx_0 rfl ?_
          refine g_iload_n rfl ?_
          refine g_iload_n rfl ?_
          refine g_iload_n rfl ?_
          refine g_if_ne (fun c133 => ?_) (fun c133 => ?_)
          · refine g_iconst (by decide) (fun v134 kv134 => ?_)
            refine g_nop ?_
            refine g_invvi hI sx_24 rfl rfl rfl rfl (s_59 a1 (by first | with_reducible assumption | omega) a2 v134 (by first | with_reducible assumption | omega) H hI hJ) (fun v137 H135 r136 => ?_)
            obtain ⟨hIH135, hJH135, w138, m139⟩ := r136
            have e140 : k1_1 = fZ H135 1 1 := ek1_1.trans w138.symm
            have m141 : kpX H H135 := kpX_t mkfr m139
            exact g_iret ⟨_, rfl, hIH135, hJH135, (e140.symm.trans ek1_1), m141⟩
          · refine g_iconst (by decide) (fun v142 kv142 => ?_)
            refine g_goto ?_
            refine g_invvi hI sx_24 rfl rfl rfl rfl (s_59 a1 (by first | with_reducible assumption | omega) a2 v142 (by first | with_reducible assumption | omega) H hI hJ) (fun v145 H143 r144 => ?_)
            obtain ⟨hIH143, hJH143, w146, m147⟩ := r144
            have e148 : k1_1 = fZ H143 1 1 := ek1_1.trans w146.symm
            have m149 : kpX H H143 := kpX_t mkfr m147
            exact g_iret ⟨_, rfl, hIH143, hJH143, (e148.symm.trans ek1_1), m149⟩
        · refine g_nop ?_
          refine g_bipush (by decide) (fun v150 kv150 => ?_)
          exact g_iret ⟨_, rfl, hI, hJ, (ek1_1.symm.trans ek1_1), mkfr⟩
set_option maxRecDepth 4000 in
set_option maxHeartbeats 4000000 in
/-- X9.known -/
theorem s_125 (a1 : Int32) (a2 : Int32) (H : mzH) (hI : gI SX H) (hJ : JX H) : gCall 125 [.ref 0, .int a1, .int a2] H (gRi (fun v H' => gI SX H' ∧ JX H' ∧ fZ H' 1 1 = fZ H 1 1 ∧ kpX H H')) := by
  obtain ⟨k1_1, ek1_1⟩ : ∃ z, z = fZ H 1 1 := ⟨_, rfl⟩
  have ik1_1 : k1_1.toInt = (fZ H 1 1).toInt := by rw [← ek1_1]
  have bk1_1 : 0 ≤ k1_1.toInt ∧ k1_1.toInt ≤ 900 := by rw [ek1_1]; exact fZ_of hI sx_1 rfl
  have mkfr : kpX H H := kpX_r
  refine gG_call [(0, .ref 0), (1, .int a1), (2, .int a2)] ⟨rfl, rfl, rfl, trivial⟩ ?_
  show gG 3 zB_125 (mzBlk zB_125 0) [(0, .ref 0), (1, .int a1), (2, .int a2)] [] H 0 0 _
  refine g_iload_n rfl ?_
  refine g_if_lt (fun c81 => ?_) (fun c81 => ?_)
  · refine g_iconst (by decide) (fun v82 kv82 => ?_)
    exact g_iret ⟨_, rfl, hI, hJ, (ek1_1.symm.trans ek1_1), mkfr⟩
  · refine g_iload_n rfl ?_
    refine g_aload_n rfl ?_
    refine g_gfr hI sx_0 rfl ?_
    refine g_gfi hI sx_3 rfl (fun v83 ev83 lv83 uv83 => ?_)
    refine g_if2_gt (fun c84 => ?_) (fun c84 => ?_)
    · refine g_iconst (by decide) (fun v85 kv85 => ?_)
      exact g_iret ⟨_, rfl, hI, hJ, (ek1_1.symm.trans ek1_1), mkfr⟩
    · refine g_iload_n rfl ?_
      refine g_invti rfl rfl rfl (s_149 a2 H hI hJ) (fun v88 H86 r87 => ?_)
      obtain ⟨rfl, bv88, p89⟩ := r87
      refine g_if_ne (fun c90 => ?_) (fun c90 => ?_)
      · refine g_aload_n rfl ?_
        refine g_gfr hI sx_0 rfl ?_
        refine g_iload_n rfl ?_
        refine g_invva hI sx_24 rfl rfl rfl rfl (s_56 a1 H hI hJ) (fun H91 r92 => ?_)
        obtain ⟨hIH91, hJH91, w93, m94⟩ := r92
        have e95 : k1_1 = fZ H91 1 1 := ek1_1.trans w93.symm
        have m96 : kpX H H91 := kpX_t mkfr m94
        refine g_iload_n rfl ?_
        refine g_invvi hIH91 sx_28 rfl rfl rfl rfl (s_91 28 zWo_28 a2 (by first | with_reducible assumption | omega) H91 hIH91 hJH91) (fun v99 H97 r98 => ?_)
        obtain rfl := r98
        exact g_iret ⟨_, rfl, hIH91, hJH91, (e95.symm.trans ek1_1), m96⟩
      · refine g_nop ?_
        refine g_iconst (by decide) (fun v100 kv100 => ?_)
        exact g_iret ⟨_, rfl, hI, hJ, (ek1_1.symm.trans ek1_1), mkfr⟩
set_option maxRecDepth 4000 in
set_option maxHeartbeats 4000000 in
/-- X9.changed -/
theorem s_126 (a1 : Int32) (H : mzH) (hI : gI SX H) (hJ : JX H) : gCall 126 [.ref 0, .int a1] H (gRi (fun v H' => gI SX H' ∧ JX H' ∧ fZ H' 1 1 = fZ H 1 1 ∧ kpX H H')) := by
  obtain ⟨k1_1, ek1_1⟩ : ∃ z, z = fZ H 1 1 := ⟨_, rfl⟩
  have ik1_1 : k1_1.toInt = (fZ H 1 1).toInt := by rw [← ek1_1]
  have bk1_1 : 0 ≤ k1_1.toInt ∧ k1_1.toInt ≤ 900 := by rw [ek1_1]; exact fZ_of hI sx_1 rfl
  have mkfr : kpX H H := kpX_r
  refine gG_call [(0, .ref 0), (1, .int a1)] ⟨rfl, rfl, trivial⟩ ?_
  show gG 2 zB_126 (mzBlk zB_126 0) [(0, .ref 0), (1, .int a1)] [] H 0 0 _
  refine g_aload_n rfl ?_
  refine g_gfr hI sx_0 rfl ?_
  refine g_iload_n rfl ?_
  refine g_invvi hI sx_3 rfl rfl rfl rfl (s_12 3 zBo_3 a1 H hI hJ) (fun v55 H53 r54 => ?_)
  obtain ⟨rfl, bv55, p56⟩ := r54
  refine g_if_ne (fun c57 => ?_) (fun c57 => ?_)
  · refine g_aload_n rfl ?_
    refine g_gfr hI sx_0 rfl ?_
    refine g_iload_n rfl ?_
    refine g_invvi hI sx_24 rfl rfl rfl rfl (s_57 a1 (by first | with_reducible assumption | omega) H hI hJ) (fun v60 H58 r59 => ?_)
    obtain ⟨hIH58, hJH58, w61, m62⟩ := r59
    have e63 : k1_1 = fZ H58 1 1 := ek1_1.trans w61.symm
    have m64 : kpX H H58 := kpX_t mkfr m62
    exact g_iret ⟨_, rfl, hIH58, hJH58, (e63.symm.trans ek1_1), m64⟩
  · refine g_iconst (by decide) (fun v65 kv65 => ?_)
    exact g_iret ⟨_, rfl, hI, hJ, (ek1_1.symm.trans ek1_1), mkfr⟩
set_option maxRecDepth 4000 in
set_option maxHeartbeats 4000000 in
/-- X9.without -/
theorem s_127 (a1 : Int32) (a2 : Int32) (H : mzH) (hI : gI SX H) (hJ : JX H) : gCall 127 [.ref 0, .int a1, .int a2] H (gRi (fun v H' => gI SX H' ∧ JX H' ∧ fZ H' 1 1 = fZ H 1 1 ∧ kpX H H')) := by
  obtain ⟨k1_1, ek1_1⟩ : ∃ z, z = fZ H 1 1 := ⟨_, rfl⟩
  have ik1_1 : k1_1.toInt = (fZ H 1 1).toInt := by rw [← ek1_1]
  have bk1_1 : 0 ≤ k1_1.toInt ∧ k1_1.toInt ≤ 900 := by rw [ek1_1]; exact fZ_of hI sx_1 rfl
  have mkfr : kpX H H := kpX_r
  refine gG_call [(0, .ref 0), (1, .int a1), (2, .int a2)] ⟨rfl, rfl, rfl, trivial⟩ ?_
  show gG 3 zB_127 (mzBlk zB_127 0) [(0, .ref 0), (1, .int a1), (2, .int a2)] [] H 0 0 _
  refine g_aload_n rfl ?_
  refine g_gfr hI sx_0 rfl ?_
  refine g_iload_n rfl ?_
  refine g_invvi hI sx_3 rfl rfl rfl rfl (s_12 3 zBo_3 a1 H hI hJ) (fun v79 H77 r78 => ?_)
  obtain ⟨rfl, bv79, p80⟩ := r78
  refine g_if_eq (fun c81 => ?_) (fun c81 => ?_)
  · refine g_iconst (by decide) (fun v82 kv82 => ?_)
    exact g_iret ⟨_, rfl, hI, hJ, (ek1_1.symm.trans ek1_1), mkfr⟩
  · refine g_iload_n rfl ?_
    refine g_invti rfl rfl rfl (s_149 a2 H hI hJ) (fun v85 H83 r84 => ?_)
    obtain ⟨rfl, bv85, p86⟩ := r84
    refine g_if_ne (fun c87 => ?_) (fun c87 => ?_)
    · refine g_aload_n rfl ?_
      refine g_gfr hI sx_0 rfl ?_
      refine g_iload_n rfl ?_
      refine g_iload_n rfl ?_
      refine g_invvi hI sx_43 rfl rfl rfl rfl (s_29 a1 a2 (by first | with_reducible assumption | omega) H hI hJ) (fun v90 H88 r89 => ?_)
      obtain ⟨hIH88, hJH88, w91, m92⟩ := r89
      have e93 : k1_1 = fZ H88 1 1 := ek1_1.trans w91.symm
      have m94 : kpX H H88 := kpX_t mkfr m92
      exact g_iret ⟨_, rfl, hIH88, hJH88, (e93.symm.trans ek1_1), m94⟩
    · refine g_nop ?_
      refine g_iconst (by decide) (fun v95 kv95 => ?_)
      exact g_iret ⟨_, rfl, hI, hJ, (ek1_1.symm.trans ek1_1), mkfr⟩
set_option maxRecDepth 4000 in
set_option maxHeartbeats 4000000 in
/-- X9.refused -/
theorem s_128 (a1 : Int32) (H : mzH) (hI : gI SX H) (hJ : JX H) : gCall 128 [.ref 0, .int a1] H (gRi (fun v H' => H = H')) := by
  refine gG_call [(0, .ref 0), (1, .int a1)] ⟨rfl, rfl, trivial⟩ ?_
  show gG 2 zB_128 (mzBlk zB_128 0) [(0, .ref 0), (1, .int a1)] [] H 0 0 _
  refine g_iload_n rfl ?_
  refine g_iconst (by decide) (fun v37 kv37 => ?_)
  refine g_if2_lt (fun c38 => ?_) (fun c38 => ?_)
  · refine g_bipush (by decide) (fun v39 kv39 => ?_)
    exact g_iret ⟨_, rfl, rfl⟩
  · refine g_iload_n rfl ?_
    refine g_bipush (by decide) (fun v40 kv40 => ?_)
    refine g_if2_le (fun c41 => ?_) (fun c41 => ?_)
    · refine g_aload_n rfl ?_
      refine g_gfr hI sx_0 rfl ?_
      refine g_iload_n rfl ?_
      refine g_invvi hI sx_24 rfl rfl rfl rfl (s_58 a1 H hI hJ) (fun v44 H42 r43 => ?_)
      obtain rfl := r43
      exact g_iret ⟨_, rfl, rfl⟩
    · refine g_nop ?_
      refine g_bipush (by decide) (fun v45 kv45 => ?_)
      exact g_iret ⟨_, rfl, rfl⟩
set_option maxRecDepth 4000 in
set_option maxHeartbeats 4000000 in
/-- X9.blamed -/
theorem s_129 (a1 : Int32) (H : mzH) (hI : gI SX H) (hJ : JX H) : gCall 129 [.ref 0, .int a1] H (gRi (fun v H' => gI SX H' ∧ JX H' ∧ fZ H' 1 1 = fZ H 1 1 ∧ kpX H H')) := by
  obtain ⟨k1_1, ek1_1⟩ : ∃ z, z = fZ H 1 1 := ⟨_, rfl⟩
  have ik1_1 : k1_1.toInt = (fZ H 1 1).toInt := by rw [← ek1_1]
  have bk1_1 : 0 ≤ k1_1.toInt ∧ k1_1.toInt ≤ 900 := by rw [ek1_1]; exact fZ_of hI sx_1 rfl
  have mkfr : kpX H H := kpX_r
  refine gG_call [(0, .ref 0), (1, .int a1)] ⟨rfl, rfl, trivial⟩ ?_
  show gG 2 zB_129 (mzBlk zB_129 0) [(0, .ref 0), (1, .int a1)] [] H 0 0 _
  refine g_iload_n rfl ?_
  refine g_if_lt (fun c69 => ?_) (fun c69 => ?_)
  · refine g_iconst (by decide) (fun v70 kv70 => ?_)
    exact g_iret ⟨_, rfl, hI, hJ, (ek1_1.symm.trans ek1_1), mkfr⟩
  · refine g_iload_n rfl ?_
    refine g_iconst (by decide) (fun v71 kv71 => ?_)
    refine g_if2_le (fun c72 => ?_) (fun c72 => ?_)
    · refine g_aload_n rfl ?_
      refine g_gfr hI sx_0 rfl ?_
      refine g_gfi hI sx_3 rfl (fun v73 ev73 lv73 uv73 => ?_)
      refine g_if_ne (fun c74 => ?_) (fun c74 => ?_)
      · refine g_aload_n rfl ?_
        refine g_gfr hI sx_0 rfl ?_
        refine g_invvv hI sx_54 rfl rfl rfl rfl (s_2 H hI hJ) (fun H75 r76 => ?_)
        obtain ⟨hIH75, hJH75, w77, m78⟩ := r76
        have e79 : k1_1 = fZ H75 1 1 := ek1_1.trans w77.symm
        have m80 : kpX H H75 := kpX_t mkfr m78
        refine g_iload_n rfl ?_
        refine g_if_ne (fun c81 => ?_) (fun c81 => ?_)
        · refine g_aload_n rfl ?_
          refine g_gfr hIH75 sx_0 rfl ?_
          refine g_gfi hIH75 sx_54 rfl (fun v82 ev82 lv82 uv82 => ?_)
          refine g_nop ?_
          exact g_iret ⟨_, rfl, hIH75, hJH75, (e79.symm.trans ek1_1), m80⟩
        · refine g_aload_n rfl ?_
          refine g_gfr hIH75 sx_0 rfl ?_
          refine g_gfi hIH75 sx_54 rfl (fun v83 ev83 lv83 uv83 => ?_)
          refine g_goto ?_
          exact g_iret ⟨_, rfl, hIH75, hJH75, (e79.symm.trans ek1_1), m80⟩
      · refine g_bipush (by decide) (fun v84 kv84 => ?_)
        exact g_iret ⟨_, rfl, hI, hJ, (ek1_1.symm.trans ek1_1), mkfr⟩
    · refine g_nop ?_
      refine g_iconst (by decide) (fun v85 kv85 => ?_)
      exact g_iret ⟨_, rfl, hI, hJ, (ek1_1.symm.trans ek1_1), mkfr⟩
set_option maxRecDepth 4000 in
set_option maxHeartbeats 4000000 in
/-- X9.twoBlamed -/
theorem s_130 (a1 : Int32) (H : mzH) (hI : gI SX H) (hJ : JX H) : gCall 130 [.ref 0, .int a1] H (gRi (fun v H' => gI SX H' ∧ JX H' ∧ fZ H' 1 1 = fZ H 1 1 ∧ kpX H H')) := by
  obtain ⟨k1_1, ek1_1⟩ : ∃ z, z = fZ H 1 1 := ⟨_, rfl⟩
  have ik1_1 : k1_1.toInt = (fZ H 1 1).toInt := by rw [← ek1_1]
  have bk1_1 : 0 ≤ k1_1.toInt ∧ k1_1.toInt ≤ 900 := by rw [ek1_1]; exact fZ_of hI sx_1 rfl
  have mkfr : kpX H H := kpX_r
  refine gG_call [(0, .ref 0), (1, .int a1)] ⟨rfl, rfl, trivial⟩ ?_
  show gG 2 zB_130 (mzBlk zB_130 0) [(0, .ref 0), (1, .int a1)] [] H 0 0 _
  refine g_iload_n rfl ?_
  refine g_if_lt (fun c85 => ?_) (fun c85 => ?_)
  · refine g_iconst (by decide) (fun v86 kv86 => ?_)
    exact g_iret ⟨_, rfl, hI, hJ, (ek1_1.symm.trans ek1_1), mkfr⟩
  · refine g_iload_n rfl ?_
    refine g_iconst (by decide) (fun v87 kv87 => ?_)
    refine g_if2_le (fun c88 => ?_) (fun c88 => ?_)
    · refine g_aload_n rfl ?_
      refine g_gfr hI sx_0 rfl ?_
      refine g_gfi hI sx_3 rfl (fun v89 ev89 lv89 uv89 => ?_)
      refine g_iconst (by decide) (fun v90 kv90 => ?_)
      refine g_if2_ge (fun c91 => ?_) (fun c91 => ?_)
      · refine g_aload_n rfl ?_
        refine g_gfr hI sx_0 rfl ?_
        refine g_invvv hI sx_54 rfl rfl rfl rfl (s_3 H hI hJ) (fun H92 r93 => ?_)
        obtain ⟨hIH92, hJH92, w94, m95⟩ := r93
        have e96 : k1_1 = fZ H92 1 1 := ek1_1.trans w94.symm
        have m97 : kpX H H92 := kpX_t mkfr m95
        refine g_iload_n rfl ?_
        refine g_iconst (by decide) (fun v98 kv98 => ?_)
        refine g_if2_ne (fun c99 => ?_) (fun c99 => ?_)
        · refine g_iload_n rfl ?_
          refine g_if_ne (fun c100 => ?_) (fun c100 => ?_)
          · refine g_aload_n rfl ?_
            refine g_gfr hIH92 sx_0 rfl ?_
            refine g_gfi hIH92 sx_54 rfl (fun v101 ev101 lv101 uv101 => ?_)
            refine g_nop ?_
            exact g_iret ⟨_, rfl, hIH92, hJH92, (e96.symm.trans ek1_1), m97⟩
          · refine g_aload_n rfl ?_
            refine g_gfr hIH92 sx_0 rfl ?_
            refine g_gfi hIH92 sx_54 rfl (fun v102 ev102 lv102 uv102 => ?_)
            refine g_goto ?_
            exact g_iret ⟨_, rfl, hIH92, hJH92, (e96.symm.trans ek1_1), m97⟩
        · refine g_aload_n rfl ?_
          refine g_gfr hIH92 sx_0 rfl ?_
          refine g_gfi hIH92 sx_54 rfl (fun v103 ev103 lv103 uv103 => ?_)
          exact g_iret ⟨_, rfl, hIH92, hJH92, (e96.symm.trans ek1_1), m97⟩
      · refine g_bipush (by decide) (fun v104 kv104 => ?_)
        exact g_iret ⟨_, rfl, hI, hJ, (ek1_1.symm.trans ek1_1), mkfr⟩
    · refine g_nop ?_
      refine g_iconst (by decide) (fun v105 kv105 => ?_)
      exact g_iret ⟨_, rfl, hI, hJ, (ek1_1.symm.trans ek1_1), mkfr⟩
set_option maxRecDepth 4000 in
set_option maxHeartbeats 4000000 in
/-- X9.met -/
theorem s_131 (a1 : Int32) (a2 : Int32) (a3 : Int32) (H : mzH) (hI : gI SX H) (hJ : JX H) : gCall 131 [.ref 0, .int a1, .int a2, .int a3] H (gRi (fun v H' => gI SX H' ∧ JX H' ∧ fZ H' 1 1 = fZ H 1 1 ∧ kpX H H')) := by
  obtain ⟨k1_1, ek1_1⟩ : ∃ z, z = fZ H 1 1 := ⟨_, rfl⟩
  have ik1_1 : k1_1.toInt = (fZ H 1 1).toInt := by rw [← ek1_1]
  have bk1_1 : 0 ≤ k1_1.toInt ∧ k1_1.toInt ≤ 900 := by rw [ek1_1]; exact fZ_of hI sx_1 rfl
  have mkfr : kpX H H := kpX_r
  refine gG_call [(0, .ref 0), (1, .int a1), (2, .int a2), (3, .int a3)] ⟨rfl, rfl, rfl, rfl, trivial⟩ ?_
  show gG 4 zB_131 (mzBlk zB_131 0) [(0, .ref 0), (1, .int a1), (2, .int a2), (3, .int a3)] [] H 0 0 _
  refine g_iload_n rfl ?_
  refine g_invti rfl rfl rfl (s_149 a1 H hI hJ) (fun v99 H97 r98 => ?_)
  obtain ⟨rfl, bv99, p100⟩ := r98
  refine g_if_eq (fun c101 => ?_) (fun c101 => ?_)
  · refine g_iconst (by decide) (fun v102 kv102 => ?_)
    exact g_iret ⟨_, rfl, hI, hJ, (ek1_1.symm.trans ek1_1), mkfr⟩
  · refine g_iload_n rfl ?_
    refine g_invti rfl rfl rfl (s_150 a2 H hI hJ) (fun v105 H103 r104 => ?_)
    obtain ⟨rfl, bv105, p106⟩ := r104
    refine g_if_eq (fun c107 => ?_) (fun c107 => ?_)
    · refine g_iconst (by decide) (fun v108 kv108 => ?_)
      exact g_iret ⟨_, rfl, hI, hJ, (ek1_1.symm.trans ek1_1), mkfr⟩
    · refine g_iload_n rfl ?_
      refine g_if_ge (fun c109 => ?_) (fun c109 => ?_)
      · refine g_aload_n rfl ?_
        refine g_gfr hI sx_0 rfl ?_
        refine g_iload_n rfl ?_
        refine g_iload_n rfl ?_
        refine g_invvl hI sx_24 rfl rfl rfl rfl (s_64 a1 (by first | with_reducible assumption | omega) a2 H hI hJ) (fun v112 H110 r111 => ?_)
        obtain ⟨hIH110, hJH110, w113, m114⟩ := r111
        have e115 : k1_1 = fZ H110 1 1 := ek1_1.trans w113.symm
        have m116 : kpX H H110 := kpX_t mkfr m114
        refine g_iload_n rfl ?_
        refine g_invti rfl rfl rfl (s_153 v112 a3 H110 hIH110 hJH110) (fun v119 H117 r118 => ?_)
        obtain rfl := r118
        exact g_iret ⟨_, rfl, hIH110, hJH110, (e115.symm.trans ek1_1), m116⟩
      · refine g_nop ?_
        refine g_iconst (by decide) (fun v120 kv120 => ?_)
        exact g_iret ⟨_, rfl, hI, hJ, (ek1_1.symm.trans ek1_1), mkfr⟩
set_option maxRecDepth 4000 in
set_option maxHeartbeats 4000000 in
/-- X9.wereIn -/
theorem s_132 (a1 : Int32) (a2 : Int32) (a3 : Int32) (a4 : Int32) (H : mzH) (hI : gI SX H) (hJ : JX H) : gCall 132 [.ref 0, .int a1, .int a2, .int a3, .int a4] H (gRi (fun v H' => gI SX H' ∧ JX H' ∧ fZ H' 1 1 = fZ H 1 1 ∧ kpX H H')) := by
  obtain ⟨k1_1, ek1_1⟩ : ∃ z, z = fZ H 1 1 := ⟨_, rfl⟩
  have ik1_1 : k1_1.toInt = (fZ H 1 1).toInt := by rw [← ek1_1]
  have bk1_1 : 0 ≤ k1_1.toInt ∧ k1_1.toInt ≤ 900 := by rw [ek1_1]; exact fZ_of hI sx_1 rfl
  have mkfr : kpX H H := kpX_r
  refine gG_call [(0, .ref 0), (1, .int a1), (2, .int a2), (3, .int a3), (4, .int a4)] ⟨rfl, rfl, rfl, rfl, rfl, trivial⟩ ?_
  show gG 5 zB_132 (mzBlk zB_132 0) [(0, .ref 0), (1, .int a1), (2, .int a2), (3, .int a3), (4, .int a4)] [] H 0 0 _
  refine g_iload_n rfl ?_
  refine g_invti rfl rfl rfl (s_149 a1 H hI hJ) (fun v131 H129 r130 => ?_)
  obtain ⟨rfl, bv131, p132⟩ := r130
  refine g_if_eq (fun c133 => ?_) (fun c133 => ?_)
  · refine g_iconst (by decide) (fun v134 kv134 => ?_)
    exact g_iret ⟨_, rfl, hI, hJ, (ek1_1.symm.trans ek1_1), mkfr⟩
  · refine g_iload_n rfl ?_
    refine g_invti rfl rfl rfl (s_150 a2 H hI hJ) (fun v137 H135 r136 => ?_)
    obtain ⟨rfl, bv137, p138⟩ := r136
    refine g_if_eq (fun c139 => ?_) (fun c139 => ?_)
    · refine g_iconst (by decide) (fun v140 kv140 => ?_)
      exact g_iret ⟨_, rfl, hI, hJ, (ek1_1.symm.trans ek1_1), mkfr⟩
    · refine g_iload_n rfl ?_
      refine g_invti rfl rfl rfl (s_150 a3 H hI hJ) (fun v143 H141 r142 => ?_)
      obtain ⟨rfl, bv143, p144⟩ := r142
      refine g_if_eq (fun c145 => ?_) (fun c145 => ?_)
      · refine g_iconst (by decide) (fun v146 kv146 => ?_)
        exact g_iret ⟨_, rfl, hI, hJ, (ek1_1.symm.trans ek1_1), mkfr⟩
      · refine g_iload_n rfl ?_
        refine g_iload_n rfl ?_
        refine g_if2_lt (fun c147 => ?_) (fun c147 => ?_)
        · refine g_iconst (by decide) (fun v148 kv148 => ?_)
          exact g_iret ⟨_, rfl, hI, hJ, (ek1_1.symm.trans ek1_1), mkfr⟩
        · refine g_iload rfl ?_
          refine g_if_ge (fun c149 => ?_) (fun c149 => ?_)
          · refine g_aload_n rfl ?_
            refine g_gfr hI sx_0 rfl ?_
            refine g_iload_n rfl ?_
            refine g_iload_n rfl ?_
            refine g_iload_n rfl ?_
            refine g_invvl hI sx_24 rfl rfl rfl rfl (s_65 a1 a2 a3 H hI hJ) (fun v152 H150 r151 => ?_)
            obtain ⟨hIH150, hJH150, w153, m154⟩ := r151
            have e155 : k1_1 = fZ H150 1 1 := ek1_1.trans w153.symm
            have m156 : kpX H H150 := kpX_t mkfr m154
            refine g_iload rfl ?_
            refine g_invti rfl rfl rfl (s_153 v152 a4 H150 hIH150 hJH150) (fun v159 H157 r158 => ?_)
            obtain rfl := r158
            exact g_iret ⟨_, rfl, hIH150, hJH150, (e155.symm.trans ek1_1), m156⟩
          · refine g_nop ?_
            refine g_iconst (by decide) (fun v160 kv160 => ?_)
            exact g_iret ⟨_, rfl, hI, hJ, (ek1_1.symm.trans ek1_1), mkfr⟩
set_option maxRecDepth 4000 in
set_option maxHeartbeats 4000000 in
/-- X9.most -/
theorem s_133 (a1 : Int32) (H : mzH) (hI : gI SX H) (hJ : JX H) : gCall 133 [.ref 0, .int a1] H (gRi (fun v H' => gI SX H' ∧ JX H' ∧ fZ H' 1 1 = fZ H 1 1 ∧ kpX H H')) := by
  obtain ⟨k1_1, ek1_1⟩ : ∃ z, z = fZ H 1 1 := ⟨_, rfl⟩
  have ik1_1 : k1_1.toInt = (fZ H 1 1).toInt := by rw [← ek1_1]
  have bk1_1 : 0 ≤ k1_1.toInt ∧ k1_1.toInt ≤ 900 := by rw [ek1_1]; exact fZ_of hI sx_1 rfl
  have mkfr : kpX H H := kpX_r
  refine gG_call [(0, .ref 0), (1, .int a1)] ⟨rfl, rfl, trivial⟩ ?_
  show gG 2 zB_133 (mzBlk zB_133 0) [(0, .ref 0), (1, .int a1)] [] H 0 0 _
  refine g_iload_n rfl ?_
  refine g_invti rfl rfl rfl (s_149 a1 H hI hJ) (fun v55 H53 r54 => ?_)
  obtain ⟨rfl, bv55, p56⟩ := r54
  refine g_if_eq (fun c57 => ?_) (fun c57 => ?_)
  · refine g_iconst (by decide) (fun v58 kv58 => ?_)
    refine g_nop ?_
    exact g_iret ⟨_, rfl, hI, hJ, (ek1_1.symm.trans ek1_1), mkfr⟩
  · refine g_aload_n rfl ?_
    refine g_gfr hI sx_0 rfl ?_
    refine g_iload_n rfl ?_
    refine g_invvi hI sx_24 rfl rfl rfl rfl (s_66 a1 (by first | with_reducible assumption | omega) H hI hJ) (fun v61 H59 r60 => ?_)
    obtain ⟨hIH59, hJH59, w62, m63⟩ := r60
    have e64 : k1_1 = fZ H59 1 1 := ek1_1.trans w62.symm
    have m65 : kpX H H59 := kpX_t mkfr m63
    refine g_goto ?_
    exact g_iret ⟨_, rfl, hIH59, hJH59, (e64.symm.trans ek1_1), m65⟩
set_option maxRecDepth 4000 in
set_option maxHeartbeats 4000000 in
/-- X9.still -/
theorem s_134 (a1 : Int32) (a2 : Int32) (H : mzH) (hI : gI SX H) (hJ : JX H) : gCall 134 [.ref 0, .int a1, .int a2] H (gRi (fun v H' => gI SX H' ∧ JX H' ∧ fZ H' 1 1 = fZ H 1 1 ∧ kpX H H')) := by
  obtain ⟨k1_1, ek1_1⟩ : ∃ z, z = fZ H 1 1 := ⟨_, rfl⟩
  have ik1_1 : k1_1.toInt = (fZ H 1 1).toInt := by rw [← ek1_1]
  have bk1_1 : 0 ≤ k1_1.toInt ∧ k1_1.toInt ≤ 900 := by rw [ek1_1]; exact fZ_of hI sx_1 rfl
  have mkfr : kpX H H := kpX_r
  refine gG_call [(0, .ref 0), (1, .int a1), (2, .int a2)] ⟨rfl, rfl, rfl, trivial⟩ ?_
  show gG 3 zB_134 (mzBlk zB_134 0) [(0, .ref 0), (1, .int a1), (2, .int a2)] [] H 0 0 _
  refine g_iload_n rfl ?_
  refine g_invti rfl rfl rfl (s_149 a1 H hI hJ) (fun v79 H77 r78 => ?_)
  obtain ⟨rfl, bv79, p80⟩ := r78
  refine g_if_eq (fun c81 => ?_) (fun c81 => ?_)
  · refine g_iconst (by decide) (fun v82 kv82 => ?_)
    exact g_iret ⟨_, rfl, hI, hJ, (ek1_1.symm.trans ek1_1), mkfr⟩
  · refine g_iload_n rfl ?_
    refine g_invti rfl rfl rfl (s_150 a2 H hI hJ) (fun v85 H83 r84 => ?_)
    obtain ⟨rfl, bv85, p86⟩ := r84
    refine g_if_ne (fun c87 => ?_) (fun c87 => ?_)
    · refine g_aload_n rfl ?_
      refine g_gfr hI sx_0 rfl ?_
      refine g_iload_n rfl ?_
      refine g_iload_n rfl ?_
      refine g_invvi hI sx_24 rfl rfl rfl rfl (s_67 a1 (by first | with_reducible assumption | omega) a2 H hI hJ) (fun v90 H88 r89 => ?_)
      obtain ⟨hIH88, hJH88, w91, m92⟩ := r89
      have e93 : k1_1 = fZ H88 1 1 := ek1_1.trans w91.symm
      have m94 : kpX H H88 := kpX_t mkfr m92
      exact g_iret ⟨_, rfl, hIH88, hJH88, (e93.symm.trans ek1_1), m94⟩
    · refine g_nop ?_
      refine g_iconst (by decide) (fun v95 kv95 => ?_)
      exact g_iret ⟨_, rfl, hI, hJ, (ek1_1.symm.trans ek1_1), mkfr⟩
set_option maxRecDepth 4000 in
set_option maxHeartbeats 4000000 in
/-- X9.components -/
theorem s_135 (a1 : Int32) (a2 : Int32) (H : mzH) (hI : gI SX H) (hJ : JX H) : gCall 135 [.ref 0, .int a1, .int a2] H (gRi (fun v H' => gI SX H' ∧ JX H' ∧ fZ H' 1 1 = fZ H 1 1 ∧ kpX H H')) := by
  obtain ⟨k1_1, ek1_1⟩ : ∃ z, z = fZ H 1 1 := ⟨_, rfl⟩
  have ik1_1 : k1_1.toInt = (fZ H 1 1).toInt := by rw [← ek1_1]
  have bk1_1 : 0 ≤ k1_1.toInt ∧ k1_1.toInt ≤ 900 := by rw [ek1_1]; exact fZ_of hI sx_1 rfl
  have mkfr : kpX H H := kpX_r
  refine gG_call [(0, .ref 0), (1, .int a1), (2, .int a2)] ⟨rfl, rfl, rfl, trivial⟩ ?_
  show gG 3 zB_135 (mzBlk zB_135 0) [(0, .ref 0), (1, .int a1), (2, .int a2)] [] H 0 0 _
  refine g_aload_n rfl ?_
  refine g_gfr hI sx_0 rfl ?_
  refine g_iload_n rfl ?_
  refine g_invvi hI sx_3 rfl rfl rfl rfl (s_11 3 zBo_3 a1 H hI hJ) (fun v87 H85 r86 => ?_)
  obtain ⟨rfl, bv87, p88⟩ := r86
  refine g_if_eq (fun c89 => ?_) (fun c89 => ?_)
  · refine g_iconst (by decide) (fun v90 kv90 => ?_)
    exact g_iret ⟨_, rfl, hI, hJ, (ek1_1.symm.trans ek1_1), mkfr⟩
  · refine g_iload_n rfl ?_
    refine g_invti rfl rfl rfl (s_150 a2 H hI hJ) (fun v93 H91 r92 => ?_)
    obtain ⟨rfl, bv93, p94⟩ := r92
    refine g_if_ne (fun c95 => ?_) (fun c95 => ?_)
    · refine g_aload_n rfl ?_
      refine g_gfr hI sx_0 rfl ?_
      refine g_iload_n rfl ?_
      refine g_invva hI sx_24 rfl rfl rfl rfl (s_55 a2 H hI hJ) (fun H96 r97 => ?_)
      obtain ⟨hIH96, hJH96, w98, m99⟩ := r97
      have e100 : k1_1 = fZ H96 1 1 := ek1_1.trans w98.symm
      have m101 : kpX H H96 := kpX_t mkfr m99
      refine g_iload_n rfl ?_
      refine g_invvi hIH96 sx_28 rfl rfl rfl rfl (s_108 28 zWo_28 a1 H96 hIH96 hJH96) (fun v104 H102 r103 => ?_)
      obtain rfl := r103
      exact g_iret ⟨_, rfl, hIH96, hJH96, (e100.symm.trans ek1_1), m101⟩
    · refine g_nop ?_
      refine g_iconst (by decide) (fun v105 kv105 => ?_)
      exact g_iret ⟨_, rfl, hI, hJ, (ek1_1.symm.trans ek1_1), mkfr⟩
set_option maxRecDepth 4000 in
set_option maxHeartbeats 4000000 in
/-- X9.dwelt -/
theorem s_136 (a1 : Int32) (a2 : Int32) (H : mzH) (hI : gI SX H) (hJ : JX H) : gCall 136 [.ref 0, .int a1, .int a2] H (gRi (fun v H' => gI SX H' ∧ JX H' ∧ fZ H' 1 1 = fZ H 1 1 ∧ kpX H H')) := by
  obtain ⟨k1_1, ek1_1⟩ : ∃ z, z = fZ H 1 1 := ⟨_, rfl⟩
  have ik1_1 : k1_1.toInt = (fZ H 1 1).toInt := by rw [← ek1_1]
  have bk1_1 : 0 ≤ k1_1.toInt ∧ k1_1.toInt ≤ 900 := by rw [ek1_1]; exact fZ_of hI sx_1 rfl
  have mkfr : kpX H H := kpX_r
  refine gG_call [(0, .ref 0), (1, .int a1), (2, .int a2)] ⟨rfl, rfl, rfl, trivial⟩ ?_
  show gG 3 zB_136 (mzBlk zB_136 0) [(0, .ref 0), (1, .int a1), (2, .int a2)] [] H 0 0 _
  refine g_iload_n rfl ?_
  refine g_invti rfl rfl rfl (s_149 a1 H hI hJ) (fun v75 H73 r74 => ?_)
  obtain ⟨rfl, bv75, p76⟩ := r74
  refine g_if_eq (fun c77 => ?_) (fun c77 => ?_)
  · refine g_iconst (by decide) (fun v78 kv78 => ?_)
    exact g_iret ⟨_, rfl, hI, hJ, (ek1_1.symm.trans ek1_1), mkfr⟩
  · refine g_aload_n rfl ?_
    refine g_iload_n rfl ?_
    refine g_invvi hI sx_0 rfl rfl rfl rfl (s_151 a2 H hI hJ) (fun v81 H79 r80 => ?_)
    obtain ⟨rfl, bv81⟩ := r80
    refine g_if_ne (fun c82 => ?_) (fun c82 => ?_)
    · refine g_aload_n rfl ?_
      refine g_gfr hI sx_0 rfl ?_
      refine g_iload_n rfl ?_
      refine g_iload_n rfl ?_
      refine g_invvi hI sx_24 rfl rfl rfl rfl (s_60 a1 (by first | with_reducible assumption | omega) a2 H hI hJ) (fun v85 H83 r84 => ?_)
      obtain ⟨hIH83, hJH83, w86, m87⟩ := r84
      have e88 : k1_1 = fZ H83 1 1 := ek1_1.trans w86.symm
      have m89 : kpX H H83 := kpX_t mkfr m87
      exact g_iret ⟨_, rfl, hIH83, hJH83, (e88.symm.trans ek1_1), m89⟩
    · refine g_nop ?_
      refine g_iconst (by decide) (fun v90 kv90 => ?_)
      exact g_iret ⟨_, rfl, hI, hJ, (ek1_1.symm.trans ek1_1), mkfr⟩
set_option maxRecDepth 4000 in
set_option maxHeartbeats 4000000 in
/-- X9.flow -/
theorem s_137 (a1 : Int32) (a2 : Int32) (H : mzH) (hI : gI SX H) (hJ : JX H) : gCall 137 [.ref 0, .int a1, .int a2] H (gRi (fun v H' => gI SX H' ∧ JX H' ∧ fZ H' 1 1 = fZ H 1 1 ∧ kpX H H')) := by
  obtain ⟨k1_1, ek1_1⟩ : ∃ z, z = fZ H 1 1 := ⟨_, rfl⟩
  have ik1_1 : k1_1.toInt = (fZ H 1 1).toInt := by rw [← ek1_1]
  have bk1_1 : 0 ≤ k1_1.toInt ∧ k1_1.toInt ≤ 900 := by rw [ek1_1]; exact fZ_of hI sx_1 rfl
  have mkfr : kpX H H := kpX_r
  refine gG_call [(0, .ref 0), (1, .int a1), (2, .int a2)] ⟨rfl, rfl, rfl, trivial⟩ ?_
  show gG 3 zB_137 (mzBlk zB_137 0) [(0, .ref 0), (1, .int a1), (2, .int a2)] [] H 0 0 _
  refine g_aload_n rfl ?_
  refine g_iload_n rfl ?_
  refine g_invvi hI sx_0 rfl rfl rfl rfl (s_151 a1 H hI hJ) (fun v79 H77 r78 => ?_)
  obtain ⟨rfl, bv79⟩ := r78
  refine g_if_eq (fun c80 => ?_) (fun c80 => ?_)
  · refine g_iconst (by decide) (fun v81 kv81 => ?_)
    exact g_iret ⟨_, rfl, hI, hJ, (ek1_1.symm.trans ek1_1), mkfr⟩
  · refine g_aload_n rfl ?_
    refine g_iload_n rfl ?_
    refine g_invvi hI sx_0 rfl rfl rfl rfl (s_152 a2 H hI hJ) (fun v84 H82 r83 => ?_)
    obtain ⟨rfl, bv84⟩ := r83
    refine g_if_eq (fun c85 => ?_) (fun c85 => ?_)
    · refine g_iconst (by decide) (fun v86 kv86 => ?_)
      exact g_iret ⟨_, rfl, hI, hJ, (ek1_1.symm.trans ek1_1), mkfr⟩
    · refine g_iload_n rfl ?_
      refine g_iload_n rfl ?_
      refine g_if2_ne (fun c87 => ?_) (fun c87 => ?_)
      · refine g_aload_n rfl ?_
        refine g_gfr hI sx_0 rfl ?_
        refine g_iload_n rfl ?_
        refine g_iload_n rfl ?_
        refine g_invvi hI sx_24 rfl rfl rfl rfl (s_61 a1 a2 H hI hJ) (fun v90 H88 r89 => ?_)
        obtain ⟨hIH88, hJH88, w91, m92⟩ := r89
        have e93 : k1_1 = fZ H88 1 1 := ek1_1.trans w91.symm
        have m94 : kpX H H88 := kpX_t mkfr m92
        exact g_iret ⟨_, rfl, hIH88, hJH88, (e93.symm.trans ek1_1), m94⟩
      · refine g_nop ?_
        refine g_iconst (by decide) (fun v95 kv95 => ?_)
        exact g_iret ⟨_, rfl, hI, hJ, (ek1_1.symm.trans ek1_1), mkfr⟩
set_option maxRecDepth 4000 in
set_option maxHeartbeats 4000000 in
/-- X9.cause -/
theorem s_138 (a1 : Int32) (H : mzH) (hI : gI SX H) (hJ : JX H) : gCall 138 [.ref 0, .int a1] H (gRi (fun v H' => gI SX H' ∧ JX H' ∧ fZ H' 1 1 = fZ H 1 1 ∧ kpX H H')) := by
  obtain ⟨k1_1, ek1_1⟩ : ∃ z, z = fZ H 1 1 := ⟨_, rfl⟩
  have ik1_1 : k1_1.toInt = (fZ H 1 1).toInt := by rw [← ek1_1]
  have bk1_1 : 0 ≤ k1_1.toInt ∧ k1_1.toInt ≤ 900 := by rw [ek1_1]; exact fZ_of hI sx_1 rfl
  have mkfr : kpX H H := kpX_r
  refine gG_call [(0, .ref 0), (1, .int a1)] ⟨rfl, rfl, trivial⟩ ?_
  show gG 2 zB_138 (mzBlk zB_138 0) [(0, .ref 0), (1, .int a1)] [] H 0 0 _
  refine g_aload_n rfl ?_
  refine g_gfr hI sx_0 rfl ?_
  refine g_iload_n rfl ?_
  refine g_invvi hI sx_3 rfl rfl rfl rfl (s_12 3 zBo_3 a1 H hI hJ) (fun v83 H81 r82 => ?_)
  obtain ⟨rfl, bv83, p84⟩ := r82
  refine g_if_ne (fun c85 => ?_) (fun c85 => ?_)
  · refine g_aload_n rfl ?_
    refine g_gfr hI sx_0 rfl ?_
    refine g_gfr hI sx_24 rfl ?_
    refine g_iload_n rfl ?_
    refine g_iaload hI sx_42 rfl (by first | with_reducible assumption | omega) (fun v86 ev86 lv86 uv86 => ?_)
    refine g_if_ne (fun c87 => ?_) (fun c87 => ?_)
    · refine g_aload_n rfl ?_
      refine g_gfr hI sx_0 rfl ?_
      refine g_iload_n rfl ?_
      refine g_invvl hI sx_43 rfl rfl rfl rfl (s_31 a1 (by first | with_reducible assumption | omega) H hI hJ) (fun v90 H88 r89 => ?_)
      obtain ⟨hIH88, hJH88, w91, m92⟩ := r89
      have e93 : k1_1 = fZ H88 1 1 := ek1_1.trans w91.symm
      have m94 : kpX H H88 := kpX_t mkfr m92
      refine g_iconst (by decide) (fun v95 kv95 => ?_)
      refine g_invti rfl rfl rfl (s_153 v90 v95 H88 hIH88 hJH88) (fun v98 H96 r97 => ?_)
      obtain rfl := r97
      exact g_iret ⟨_, rfl, hIH88, hJH88, (e93.symm.trans ek1_1), m94⟩
    · refine g_bipush (by decide) (fun v99 kv99 => ?_)
      exact g_iret ⟨_, rfl, hI, hJ, (ek1_1.symm.trans ek1_1), mkfr⟩
  · refine g_iconst (by decide) (fun v100 kv100 => ?_)
    exact g_iret ⟨_, rfl, hI, hJ, (ek1_1.symm.trans ek1_1), mkfr⟩
set_option maxRecDepth 4000 in
set_option maxHeartbeats 4000000 in
/-- X9.needs -/
theorem s_139 (a1 : Int32) (a2 : Int32) (H : mzH) (hI : gI SX H) (hJ : JX H) : gCall 139 [.ref 0, .int a1, .int a2] H (gRi (fun v H' => gI SX H' ∧ JX H' ∧ fZ H' 1 1 = fZ H 1 1 ∧ kpX H H')) := by
  obtain ⟨k1_1, ek1_1⟩ : ∃ z, z = fZ H 1 1 := ⟨_, rfl⟩
  have ik1_1 : k1_1.toInt = (fZ H 1 1).toInt := by rw [← ek1_1]
  have bk1_1 : 0 ≤ k1_1.toInt ∧ k1_1.toInt ≤ 900 := by rw [ek1_1]; exact fZ_of hI sx_1 rfl
  have mkfr : kpX H H := kpX_r
  refine gG_call [(0, .ref 0), (1, .int a1), (2, .int a2)] ⟨rfl, rfl, rfl, trivial⟩ ?_
  show gG 3 zB_139 (mzBlk zB_139 0) [(0, .ref 0), (1, .int a1), (2, .int a2)] [] H 0 0 _
  refine g_aload_n rfl ?_
  refine g_gfr hI sx_0 rfl ?_
  refine g_iload_n rfl ?_
  refine g_invvi hI sx_3 rfl rfl rfl rfl (s_12 3 zBo_3 a1 H hI hJ) (fun v87 H85 r86 => ?_)
  obtain ⟨rfl, bv87, p88⟩ := r86
  refine g_if_eq (fun c89 => ?_) (fun c89 => ?_)
  · refine g_iconst (by decide) (fun v90 kv90 => ?_)
    exact g_iret ⟨_, rfl, hI, hJ, (ek1_1.symm.trans ek1_1), mkfr⟩
  · refine g_iload_n rfl ?_
    refine g_if_ge (fun c91 => ?_) (fun c91 => ?_)
    · refine g_aload_n rfl ?_
      refine g_gfr hI sx_0 rfl ?_
      refine g_gfr hI sx_24 rfl ?_
      refine g_iload_n rfl ?_
      refine g_iaload hI sx_42 rfl (by first | with_reducible assumption | omega) (fun v92 ev92 lv92 uv92 => ?_)
      refine g_if_eq (fun c93 => ?_) (fun c93 => ?_)
      · refine g_aload_n rfl ?_
        refine g_gfr hI sx_0 rfl ?_
        refine g_iload_n rfl ?_
        refine g_invvl hI sx_43 rfl rfl rfl rfl (s_31 a1 (by first | with_reducible assumption | omega) H hI hJ) (fun v96 H94 r95 => ?_)
        obtain ⟨hIH94, hJH94, w97, m98⟩ := r95
        have e99 : k1_1 = fZ H94 1 1 := ek1_1.trans w97.symm
        have m100 : kpX H H94 := kpX_t mkfr m98
        refine g_iload_n rfl ?_
        refine g_invti rfl rfl rfl (s_153 v96 a2 H94 hIH94 hJH94) (fun v103 H101 r102 => ?_)
        obtain rfl := r102
        exact g_iret ⟨_, rfl, hIH94, hJH94, (e99.symm.trans ek1_1), m100⟩
      · refine g_bipush (by decide) (fun v104 kv104 => ?_)
        exact g_iret ⟨_, rfl, hI, hJ, (ek1_1.symm.trans ek1_1), mkfr⟩
    · refine g_nop ?_
      refine g_iconst (by decide) (fun v105 kv105 => ?_)
      exact g_iret ⟨_, rfl, hI, hJ, (ek1_1.symm.trans ek1_1), mkfr⟩
set_option maxRecDepth 4000 in
set_option maxHeartbeats 4000000 in
/-- X9.ifAt -/
theorem s_140 (a1 : Int32) (a2 : Int32) (a3 : Int32) (H : mzH) (hI : gI SX H) (hJ : JX H) : gCall 140 [.ref 0, .int a1, .int a2, .int a3] H (gRi (fun v H' => gI SX H' ∧ JX H' ∧ fZ H' 1 1 = fZ H 1 1 ∧ kpX H H')) := by
  obtain ⟨k1_1, ek1_1⟩ : ∃ z, z = fZ H 1 1 := ⟨_, rfl⟩
  have ik1_1 : k1_1.toInt = (fZ H 1 1).toInt := by rw [← ek1_1]
  have bk1_1 : 0 ≤ k1_1.toInt ∧ k1_1.toInt ≤ 900 := by rw [ek1_1]; exact fZ_of hI sx_1 rfl
  have mkfr : kpX H H := kpX_r
  refine gG_call [(0, .ref 0), (1, .int a1), (2, .int a2), (3, .int a3)] ⟨rfl, rfl, rfl, rfl, trivial⟩ ?_
  show gG 4 zB_140 (mzBlk zB_140 0) [(0, .ref 0), (1, .int a1), (2, .int a2), (3, .int a3)] [] H 0 0 _
  refine g_aload_n rfl ?_
  refine g_gfr hI sx_0 rfl ?_
  refine g_iload_n rfl ?_
  refine g_invvi hI sx_3 rfl rfl rfl rfl (s_12 3 zBo_3 a1 H hI hJ) (fun v103 H101 r102 => ?_)
  obtain ⟨rfl, bv103, p104⟩ := r102
  refine g_if_eq (fun c105 => ?_) (fun c105 => ?_)
  · refine g_sipush (by decide) (fun v106 kv106 => ?_)
    exact g_iret ⟨_, rfl, hI, hJ, (ek1_1.symm.trans ek1_1), mkfr⟩
  · refine g_iload_n rfl ?_
    refine g_invti rfl rfl rfl (s_150 a2 H hI hJ) (fun v109 H107 r108 => ?_)
    obtain ⟨rfl, bv109, p110⟩ := r108
    refine g_if_eq (fun c111 => ?_) (fun c111 => ?_)
    · refine g_sipush (by decide) (fun v112 kv112 => ?_)
      exact g_iret ⟨_, rfl, hI, hJ, (ek1_1.symm.trans ek1_1), mkfr⟩
    · refine g_iload_n rfl ?_
      refine g_iconst (by decide) (fun v113 kv113 => ?_)
      refine g_if2_lt (fun c114 => ?_) (fun c114 => ?_)
      · refine g_sipush (by decide) (fun v115 kv115 => ?_)
        exact g_iret ⟨_, rfl, hI, hJ, (ek1_1.symm.trans ek1_1), mkfr⟩
      · refine g_iload_n rfl ?_
        refine g_bipush (by decide) (fun v116 kv116 => ?_)
        refine g_if2_lt (fun c117 => ?_) (fun c117 => ?_)
        · refine g_aload_n rfl ?_
          refine g_gfr hI sx_0 rfl ?_
          refine g_iload_n rfl ?_
          refine g_iload_n rfl ?_
          refine g_iload_n rfl ?_
          refine g_invvi hI sx_43 rfl rfl rfl rfl (s_32 a1 (by first | with_reducible assumption | omega) a2 a3 (by first | with_reducible assumption | omega) H hI hJ) (fun v120 H118 r119 => ?_)
          obtain ⟨hIH118, hJH118, w121, m122⟩ := r119
          have e123 : k1_1 = fZ H118 1 1 := ek1_1.trans w121.symm
          have m124 : kpX H H118 := kpX_t mkfr m122
          exact g_iret ⟨_, rfl, hIH118, hJH118, (e123.symm.trans ek1_1), m124⟩
        · refine g_nop ?_
          refine g_sipush (by decide) (fun v125 kv125 => ?_)
          exact g_iret ⟨_, rfl, hI, hJ, (ek1_1.symm.trans ek1_1), mkfr⟩
set_option maxRecDepth 4000 in
set_option maxHeartbeats 4000000 in
/-- X9.window -/
theorem s_141 (a1 : Int32) (a2 : Int32) (H : mzH) (hI : gI SX H) (hJ : JX H) : gCall 141 [.ref 0, .int a1, .int a2] H (gRi (fun v H' => gI SX H' ∧ JX H' ∧ fZ H' 1 1 = fZ H 1 1 ∧ kpX H H')) := by
  obtain ⟨k1_1, ek1_1⟩ : ∃ z, z = fZ H 1 1 := ⟨_, rfl⟩
  have ik1_1 : k1_1.toInt = (fZ H 1 1).toInt := by rw [← ek1_1]
  have bk1_1 : 0 ≤ k1_1.toInt ∧ k1_1.toInt ≤ 900 := by rw [ek1_1]; exact fZ_of hI sx_1 rfl
  have mkfr : kpX H H := kpX_r
  refine gG_call [(0, .ref 0), (1, .int a1), (2, .int a2)] ⟨rfl, rfl, rfl, trivial⟩ ?_
  show gG 3 zB_141 (mzBlk zB_141 0) [(0, .ref 0), (1, .int a1), (2, .int a2)] [] H 0 0 _
  refine g_aload_n rfl ?_
  refine g_gfr hI sx_0 rfl ?_
  refine g_iload_n rfl ?_
  refine g_invvi hI sx_3 rfl rfl rfl rfl (s_12 3 zBo_3 a1 H hI hJ) (fun v95 H93 r94 => ?_)
  obtain ⟨rfl, bv95, p96⟩ := r94
  refine g_if_eq (fun c97 => ?_) (fun c97 => ?_)
  · refine g_iconst (by decide) (fun v98 kv98 => ?_)
    exact g_iret ⟨_, rfl, hI, hJ, (ek1_1.symm.trans ek1_1), mkfr⟩
  · refine g_iload_n rfl ?_
    refine g_if_lt (fun c99 => ?_) (fun c99 => ?_)
    · refine g_iconst (by decide) (fun v100 kv100 => ?_)
      exact g_iret ⟨_, rfl, hI, hJ, (ek1_1.symm.trans ek1_1), mkfr⟩
    · refine g_iload_n rfl ?_
      refine g_iconst (by decide) (fun v101 kv101 => ?_)
      refine g_if2_le (fun c102 => ?_) (fun c102 => ?_)
      · refine g_aload_n rfl ?_
        refine g_gfr hI sx_0 rfl ?_
        refine g_iload_n rfl ?_
        refine g_invvv hI sx_43 rfl rfl rfl rfl (s_35 a1 (by first | with_reducible assumption | omega) H hI hJ) (fun H103 r104 => ?_)
        obtain ⟨hIH103, hJH103, w105, m106⟩ := r104
        have e107 : k1_1 = fZ H103 1 1 := ek1_1.trans w105.symm
        have m108 : kpX H H103 := kpX_t mkfr m106
        refine g_iload_n rfl ?_
        refine g_iconst (by decide) (fun v109 kv109 => ?_)
        refine g_if2_ne (fun c110 => ?_) (fun c110 => ?_)
        · refine g_iload_n rfl ?_
          refine g_if_ne (fun c111 => ?_) (fun c111 => ?_)
          · refine g_aload_n rfl ?_
            refine g_gfr hIH103 sx_0 rfl ?_
            refine g_gfi hIH103 sx_43 rfl (fun v112 ev112 lv112 uv112 => ?_)
            refine g_nop ?_
            exact g_iret ⟨_, rfl, hIH103, hJH103, (e107.symm.trans ek1_1), m108⟩
          · refine g_aload_n rfl ?_
            refine g_gfr hIH103 sx_0 rfl ?_
            refine g_gfi hIH103 sx_43 rfl (fun v113 ev113 lv113 uv113 => ?_)
            refine g_goto ?_
            exact g_iret ⟨_, rfl, hIH103, hJH103, (e107.symm.trans ek1_1), m108⟩
        · refine g_aload_n rfl ?_
          refine g_gfr hIH103 sx_0 rfl ?_
          refine g_gfi hIH103 sx_43 rfl (fun v114 ev114 lv114 uv114 => ?_)
          exact g_iret ⟨_, rfl, hIH103, hJH103, (e107.symm.trans ek1_1), m108⟩
      · refine g_nop ?_
        refine g_iconst (by decide) (fun v115 kv115 => ?_)
        exact g_iret ⟨_, rfl, hI, hJ, (ek1_1.symm.trans ek1_1), mkfr⟩
set_option maxRecDepth 4000 in
set_option maxHeartbeats 4000000 in
/-- X9.lost -/
theorem s_142 (a1 : Int32) (a2 : Int32) (a3 : Int32) (H : mzH) (hI : gI SX H) (hJ : JX H) : gCall 142 [.ref 0, .int a1, .int a2, .int a3] H (gRi (fun v H' => gI SX H' ∧ JX H' ∧ fZ H' 1 1 = fZ H 1 1 ∧ kpX H H')) := by
  obtain ⟨k1_1, ek1_1⟩ : ∃ z, z = fZ H 1 1 := ⟨_, rfl⟩
  have ik1_1 : k1_1.toInt = (fZ H 1 1).toInt := by rw [← ek1_1]
  have bk1_1 : 0 ≤ k1_1.toInt ∧ k1_1.toInt ≤ 900 := by rw [ek1_1]; exact fZ_of hI sx_1 rfl
  have mkfr : kpX H H := kpX_r
  refine gG_call [(0, .ref 0), (1, .int a1), (2, .int a2), (3, .int a3)] ⟨rfl, rfl, rfl, rfl, trivial⟩ ?_
  show gG 4 zB_142 (mzBlk zB_142 0) [(0, .ref 0), (1, .int a1), (2, .int a2), (3, .int a3)] [] H 0 0 _
  refine g_iload_n rfl ?_
  refine g_invti rfl rfl rfl (s_150 a1 H hI hJ) (fun v111 H109 r110 => ?_)
  obtain ⟨rfl, bv111, p112⟩ := r110
  refine g_if_eq (fun c113 => ?_) (fun c113 => ?_)
  · refine g_iconst (by decide) (fun v114 kv114 => ?_)
    exact g_iret ⟨_, rfl, hI, hJ, (ek1_1.symm.trans ek1_1), mkfr⟩
  · refine g_iload_n rfl ?_
    refine g_invti rfl rfl rfl (s_150 a2 H hI hJ) (fun v117 H115 r116 => ?_)
    obtain ⟨rfl, bv117, p118⟩ := r116
    refine g_if_eq (fun c119 => ?_) (fun c119 => ?_)
    · refine g_iconst (by decide) (fun v120 kv120 => ?_)
      exact g_iret ⟨_, rfl, hI, hJ, (ek1_1.symm.trans ek1_1), mkfr⟩
    · refine g_iload_n rfl ?_
      refine g_if_ge (fun c121 => ?_) (fun c121 => ?_)
      · refine g_aload_n rfl ?_
        refine g_gfr hI sx_0 rfl ?_
        refine g_iload_n rfl ?_
        refine g_invva hI sx_24 rfl rfl rfl rfl (s_55 a1 H hI hJ) (fun H122 r123 => ?_)
        obtain ⟨hIH122, hJH122, w124, m125⟩ := r123
        have e126 : k1_1 = fZ H122 1 1 := ek1_1.trans w124.symm
        have m127 : kpX H H122 := kpX_t mkfr m125
        refine g_iload_n rfl ?_
        refine g_iload_n rfl ?_
        refine g_isub (by first | with_reducible assumption | omega) (fun v128 ev128 => ?_)
        refine g_invvl hIH122 sx_28 rfl rfl rfl rfl (s_106 28 zWo_28 v128 H122 hIH122 hJH122) (fun v131 H129 r130 => ?_)
        obtain rfl := r130
        refine g_iload_n rfl ?_
        refine g_invti rfl rfl rfl (s_153 v131 a3 H122 hIH122 hJH122) (fun v134 H132 r133 => ?_)
        obtain rfl := r133
        exact g_iret ⟨_, rfl, hIH122, hJH122, (e126.symm.trans ek1_1), m127⟩
      · refine g_nop ?_
        refine g_iconst (by decide) (fun v135 kv135 => ?_)
        exact g_iret ⟨_, rfl, hI, hJ, (ek1_1.symm.trans ek1_1), mkfr⟩
set_option maxRecDepth 4000 in
set_option maxHeartbeats 4000000 in
/-- X9.ifSwapped -/
theorem s_143 (a1 : Int32) (a2 : Int32) (a3 : Int32) (H : mzH) (hI : gI SX H) (hJ : JX H) : gCall 143 [.ref 0, .int a1, .int a2, .int a3] H (gRi (fun v H' => gI SX H' ∧ JX H' ∧ fZ H' 1 1 = fZ H 1 1 ∧ kpX H H')) := by
  obtain ⟨k1_1, ek1_1⟩ : ∃ z, z = fZ H 1 1 := ⟨_, rfl⟩
  have ik1_1 : k1_1.toInt = (fZ H 1 1).toInt := by rw [← ek1_1]
  have bk1_1 : 0 ≤ k1_1.toInt ∧ k1_1.toInt ≤ 900 := by rw [ek1_1]; exact fZ_of hI sx_1 rfl
  have mkfr : kpX H H := kpX_r
  refine gG_call [(0, .ref 0), (1, .int a1), (2, .int a2), (3, .int a3)] ⟨rfl, rfl, rfl, rfl, trivial⟩ ?_
  show gG 4 zB_143 (mzBlk zB_143 0) [(0, .ref 0), (1, .int a1), (2, .int a2), (3, .int a3)] [] H 0 0 _
  refine g_aload_n rfl ?_
  refine g_gfr hI sx_0 rfl ?_
  refine g_iload_n rfl ?_
  refine g_invvi hI sx_3 rfl rfl rfl rfl (s_12 3 zBo_3 a1 H hI hJ) (fun v111 H109 r110 => ?_)
  obtain ⟨rfl, bv111, p112⟩ := r110
  refine g_if_eq (fun c113 => ?_) (fun c113 => ?_)
  · refine g_sipush (by decide) (fun v114 kv114 => ?_)
    exact g_iret ⟨_, rfl, hI, hJ, (ek1_1.symm.trans ek1_1), mkfr⟩
  · refine g_aload_n rfl ?_
    refine g_gfr hI sx_0 rfl ?_
    refine g_iload_n rfl ?_
    refine g_invvi hI sx_3 rfl rfl rfl rfl (s_12 3 zBo_3 a2 H hI hJ) (fun v117 H115 r116 => ?_)
    obtain ⟨rfl, bv117, p118⟩ := r116
    refine g_if_eq (fun c119 => ?_) (fun c119 => ?_)
    · refine g_sipush (by decide) (fun v120 kv120 => ?_)
      exact g_iret ⟨_, rfl, hI, hJ, (ek1_1.symm.trans ek1_1), mkfr⟩
    · refine g_iload_n rfl ?_
      refine g_iload_n rfl ?_
      refine g_if2_eq (fun c121 => ?_) (fun c121 => ?_)
      · refine g_sipush (by decide) (fun v122 kv122 => ?_)
        exact g_iret ⟨_, rfl, hI, hJ, (ek1_1.symm.trans ek1_1), mkfr⟩
      · refine g_iload_n rfl ?_
        refine g_iconst (by decide) (fun v123 kv123 => ?_)
        refine g_if2_lt (fun c124 => ?_) (fun c124 => ?_)
        · refine g_sipush (by decide) (fun v125 kv125 => ?_)
          exact g_iret ⟨_, rfl, hI, hJ, (ek1_1.symm.trans ek1_1), mkfr⟩
        · refine g_iload_n rfl ?_
          refine g_bipush (by decide) (fun v126 kv126 => ?_)
          refine g_if2_lt (fun c127 => ?_) (fun c127 => ?_)
          · refine g_aload_n rfl ?_
            refine g_gfr hI sx_0 rfl ?_
            refine g_iload_n rfl ?_
            refine g_iload_n rfl ?_
            refine g_iload_n rfl ?_
            refine g_invvi hI sx_43 rfl rfl rfl rfl (s_33 a1 (by first | with_reducible assumption | omega) a2 (by first | with_reducible assumption | omega) a3 (by first | with_reducible assumption | omega) H hI hJ) (fun v130 H128 r129 => ?_)
            obtain ⟨hIH128, hJH128, w131, m132⟩ := r129
            have e133 : k1_1 = fZ H128 1 1 := ek1_1.trans w131.symm
            have m134 : kpX H H128 := kpX_t mkfr m132
            exact g_iret ⟨_, rfl, hIH128, hJH128, (e133.symm.trans ek1_1), m134⟩
          · refine g_nop ?_
            refine g_sipush (by decide) (fun v135 kv135 => ?_)
            exact g_iret ⟨_, rfl, hI, hJ, (ek1_1.symm.trans ek1_1), mkfr⟩
set_option maxRecDepth 4000 in
set_option maxHeartbeats 4000000 in
/-- X9.busy -/
theorem s_144 (a1 : Int32) (a2 : Int32) (H : mzH) (hI : gI SX H) (hJ : JX H) : gCall 144 [.ref 0, .int a1, .int a2] H (gRi (fun v H' => gI SX H' ∧ JX H' ∧ fZ H' 1 1 = fZ H 1 1 ∧ kpX H H')) := by
  obtain ⟨k1_1, ek1_1⟩ : ∃ z, z = fZ H 1 1 := ⟨_, rfl⟩
  have ik1_1 : k1_1.toInt = (fZ H 1 1).toInt := by rw [← ek1_1]
  have bk1_1 : 0 ≤ k1_1.toInt ∧ k1_1.toInt ≤ 900 := by rw [ek1_1]; exact fZ_of hI sx_1 rfl
  have mkfr : kpX H H := kpX_r
  refine gG_call [(0, .ref 0), (1, .int a1), (2, .int a2)] ⟨rfl, rfl, rfl, trivial⟩ ?_
  show gG 3 zB_144 (mzBlk zB_144 0) [(0, .ref 0), (1, .int a1), (2, .int a2)] [] H 0 0 _
  refine g_aload_n rfl ?_
  refine g_iload_n rfl ?_
  refine g_invvi hI sx_0 rfl rfl rfl rfl (s_152 a1 H hI hJ) (fun v111 H109 r110 => ?_)
  obtain ⟨rfl, bv111⟩ := r110
  refine g_if_eq (fun c112 => ?_) (fun c112 => ?_)
  · refine g_iconst (by decide) (fun v113 kv113 => ?_)
    exact g_iret ⟨_, rfl, hI, hJ, (ek1_1.symm.trans ek1_1), mkfr⟩
  · refine g_iload_n rfl ?_
    refine g_if_lt (fun c114 => ?_) (fun c114 => ?_)
    · refine g_iconst (by decide) (fun v115 kv115 => ?_)
      exact g_iret ⟨_, rfl, hI, hJ, (ek1_1.symm.trans ek1_1), mkfr⟩
    · refine g_iload_n rfl ?_
      refine g_iconst (by decide) (fun v116 kv116 => ?_)
      refine g_if2_le (fun c117 => ?_) (fun c117 => ?_)
      · refine g_aload_n rfl ?_
        refine g_gfr hI sx_0 rfl ?_
        refine g_iload_n rfl ?_
        refine g_iload_n rfl ?_
        refine g_if_ne (fun c118 => ?_) (fun c118 => ?_)
        · refine g_iconst (by decide) (fun v119 kv119 => ?_)
          refine g_nop ?_
          refine g_invvi hI sx_24 rfl rfl rfl rfl (s_63 a1 v119 (by first | with_reducible assumption | omega) H hI hJ) (fun v122 H120 r121 => ?_)
          obtain ⟨hIH120, hJH120, w123, m124⟩ := r121
          have e125 : k1_1 = fZ H120 1 1 := ek1_1.trans w123.symm
          have m126 : kpX H H120 := kpX_t mkfr m124
          exact g_iret ⟨_, rfl, hIH120, hJH120, (e125.symm.trans ek1_1), m126⟩
        · refine g_iconst (by decide) (fun v127 kv127 => ?_)
          refine g_goto ?_
          refine g_invvi hI sx_24 rfl rfl rfl rfl (s_63 a1 v127 (by first | with_reducible assumption | omega) H hI hJ) (fun v130 H128 r129 => ?_)
          obtain ⟨hIH128, hJH128, w131, m132⟩ := r129
          have e133 : k1_1 = fZ H128 1 1 := ek1_1.trans w131.symm
          have m134 : kpX H H128 := kpX_t mkfr m132
          exact g_iret ⟨_, rfl, hIH128, hJH128, (e133.symm.trans ek1_1), m134⟩
      · refine g_nop ?_
        refine g_iconst (by decide) (fun v135 kv135 => ?_)
        exact g_iret ⟨_, rfl, hI, hJ, (ek1_1.symm.trans ek1_1), mkfr⟩
set_option maxRecDepth 4000 in
set_option maxHeartbeats 4000000 in
/-- X9.travelled -/
theorem s_145 (a1 : Int32) (H : mzH) (hI : gI SX H) (hJ : JX H) : gCall 145 [.ref 0, .int a1] H (gRi (fun v H' => gI SX H' ∧ JX H' ∧ fZ H' 1 1 = fZ H 1 1 ∧ kpX H H')) := by
  obtain ⟨k1_1, ek1_1⟩ : ∃ z, z = fZ H 1 1 := ⟨_, rfl⟩
  have ik1_1 : k1_1.toInt = (fZ H 1 1).toInt := by rw [← ek1_1]
  have bk1_1 : 0 ≤ k1_1.toInt ∧ k1_1.toInt ≤ 900 := by rw [ek1_1]; exact fZ_of hI sx_1 rfl
  have mkfr : kpX H H := kpX_r
  refine gG_call [(0, .ref 0), (1, .int a1)] ⟨rfl, rfl, trivial⟩ ?_
  show gG 2 zB_145 (mzBlk zB_145 0) [(0, .ref 0), (1, .int a1)] [] H 0 0 _
  refine g_iload_n rfl ?_
  refine g_invti rfl rfl rfl (s_149 a1 H hI hJ) (fun v55 H53 r54 => ?_)
  obtain ⟨rfl, bv55, p56⟩ := r54
  refine g_if_eq (fun c57 => ?_) (fun c57 => ?_)
  · refine g_iconst (by decide) (fun v58 kv58 => ?_)
    refine g_nop ?_
    exact g_iret ⟨_, rfl, hI, hJ, (ek1_1.symm.trans ek1_1), mkfr⟩
  · refine g_aload_n rfl ?_
    refine g_gfr hI sx_0 rfl ?_
    refine g_iload_n rfl ?_
    refine g_invvi hI sx_24 rfl rfl rfl rfl (s_62 a1 (by first | with_reducible assumption | omega) H hI hJ) (fun v61 H59 r60 => ?_)
    obtain ⟨hIH59, hJH59, w62, m63⟩ := r60
    have e64 : k1_1 = fZ H59 1 1 := ek1_1.trans w62.symm
    have m65 : kpX H H59 := kpX_t mkfr m63
    refine g_goto ?_
    exact g_iret ⟨_, rfl, hIH59, hJH59, (e64.symm.trans ek1_1), m65⟩
set_option maxRecDepth 4000 in
set_option maxHeartbeats 4000000 in
/-- X9.soonest -/
theorem s_147 (a1 : Int32) (a2 : Int32) (a3 : Int32) (H : mzH) (hI : gI SX H) (hJ : JX H) : gCall 147 [.ref 0, .int a1, .int a2, .int a3] H (gRi (fun v H' => gI SX H' ∧ JX H' ∧ fZ H' 1 1 = fZ H 1 1 ∧ kpX H H')) := by
  obtain ⟨k1_1, ek1_1⟩ : ∃ z, z = fZ H 1 1 := ⟨_, rfl⟩
  have ik1_1 : k1_1.toInt = (fZ H 1 1).toInt := by rw [← ek1_1]
  have bk1_1 : 0 ≤ k1_1.toInt ∧ k1_1.toInt ≤ 900 := by rw [ek1_1]; exact fZ_of hI sx_1 rfl
  have mkfr : kpX H H := kpX_r
  refine gG_call [(0, .ref 0), (1, .int a1), (2, .int a2), (3, .int a3)] ⟨rfl, rfl, rfl, rfl, trivial⟩ ?_
  show gG 7 zB_147 (mzBlk zB_147 0) [(0, .ref 0), (1, .int a1), (2, .int a2), (3, .int a3)] [] H 0 0 _
  refine g_iload_n rfl ?_
  refine g_invti rfl rfl rfl (s_149 a1 H hI hJ) (fun v171 H169 r170 => ?_)
  obtain ⟨rfl, bv171, p172⟩ := r170
  refine g_if_eq (fun c173 => ?_) (fun c173 => ?_)
  · refine g_iconst (by decide) (fun v174 kv174 => ?_)
    exact g_iret ⟨_, rfl, hI, hJ, (ek1_1.symm.trans ek1_1), mkfr⟩
  · refine g_iload_n rfl ?_
    refine g_invti rfl rfl rfl (s_150 a2 H hI hJ) (fun v177 H175 r176 => ?_)
    obtain ⟨rfl, bv177, p178⟩ := r176
    refine g_if_eq (fun c179 => ?_) (fun c179 => ?_)
    · refine g_iconst (by decide) (fun v180 kv180 => ?_)
      exact g_iret ⟨_, rfl, hI, hJ, (ek1_1.symm.trans ek1_1), mkfr⟩
    · refine g_aload_n rfl ?_
      refine g_gfr hI sx_0 rfl ?_
      refine g_iload_n rfl ?_
      refine g_invvi hI sx_3 rfl rfl rfl rfl (s_11 3 zBo_3 a3 H hI hJ) (fun v183 H181 r182 => ?_)
      obtain ⟨rfl, bv183, p184⟩ := r182
      refine g_if_ne (fun c185 => ?_) (fun c185 => ?_)
      · refine g_aload_n rfl ?_
        refine g_gfr hI sx_0 rfl ?_
        refine g_iload_n rfl ?_
        refine g_invva hI sx_24 rfl rfl rfl rfl (s_55 a2 H hI hJ) (fun H186 r187 => ?_)
        obtain ⟨hIH186, hJH186, w188, m189⟩ := r187
        have e190 : k1_1 = fZ H186 1 1 := ek1_1.trans w188.symm
        have m191 : kpX H H186 := kpX_t mkfr m189
        refine g_astore (l' := [(0, .ref 0), (1, .int a1), (2, .int a2), (3, .int a3), (4, .ref 28)]) rfl rfl ?_
        refine g_aload rfl ?_
        refine g_iload_n rfl ?_
        refine g_invvi hIH186 sx_28 rfl rfl rfl rfl (s_91 28 zWo_28 a1 (by first | with_reducible assumption | omega) H186 hIH186 hJH186) (fun v194 H192 r193 => ?_)
        obtain rfl := r193
        refine g_istore (l' := [(0, .ref 0), (1, .int a1), (2, .int a2), (3, .int a3), (4, .ref 28), (5, .int v194)]) rfl rfl ?_
        refine g_iload rfl ?_
        refine g_if_lt (fun c195 => ?_) (fun c195 => ?_)
        · refine g_iload rfl ?_
          refine g_if_ge (fun c196 => ?_) (fun c196 => ?_)
          · exfalso; omega
          · refine g_iload rfl ?_
            refine g_goto ?_
            exact g_iret ⟨_, rfl, hIH186, hJH186, (e190.symm.trans ek1_1), m191⟩
        · refine g_iload rfl ?_
          refine g_iload_n rfl ?_
          refine g_if2_ne (fun c197 => ?_) (fun c197 => ?_)
          · refine g_aload_n rfl ?_
            refine g_gfr hIH186 sx_0 rfl ?_
            refine g_iload rfl ?_
            refine g_iload_n rfl ?_
            refine g_invvi hIH186 sx_3 rfl rfl rfl rfl (s_17 3 zBo_3 v194 a3 H186 hIH186 hJH186) (fun v200 H198 r199 => ?_)
            obtain rfl := r199
            refine g_istore (l' := [(0, .ref 0), (1, .int a1), (2, .int a2), (3, .int a3), (4, .ref 28), (5, .int v194), (6, .int v200)]) rfl rfl ?_
            refine g_iload rfl ?_
            refine g_bipush (by decide) (fun v201 kv201 => ?_)
            refine g_if2_ne (fun c202 => ?_) (fun c202 => ?_)
            · refine g_iload_n rfl ?_
              refine g_aload rfl ?_
              refine g_iload_n rfl ?_
              refine g_invvi hIH186 sx_28 rfl rfl rfl rfl (s_92 28 zWo_28 a1 (by first | with_reducible assumption | omega) H186 hIH186 hJH186) (fun v205 H203 r204 => ?_)
              obtain rfl := r204
              refine g_iload rfl ?_
              refine g_iadd' (fun v206 ov206 => ?_)
              refine g_max rfl (fun v207 av207 bv207 dv207 => ?_)
              refine g_nop ?_
              exact g_iret ⟨_, rfl, hIH186, hJH186, (e190.symm.trans ek1_1), m191⟩
            · refine g_bipush (by decide) (fun v208 kv208 => ?_)
              refine g_goto ?_
              exact g_iret ⟨_, rfl, hIH186, hJH186, (e190.symm.trans ek1_1), m191⟩
          · refine g_nop ?_
            refine g_iload rfl ?_
            refine g_if_ge (fun c209 => ?_) (fun c209 => ?_)
            · refine g_iload_n rfl ?_
              refine g_nop ?_
              exact g_iret ⟨_, rfl, hIH186, hJH186, (e190.symm.trans ek1_1), m191⟩
            · exfalso; omega
      · refine g_nop ?_
        refine g_iconst (by decide) (fun v210 kv210 => ?_)
        exact g_iret ⟨_, rfl, hI, hJ, (ek1_1.symm.trans ek1_1), mkfr⟩
set_option maxRecDepth 4000 in
set_option maxHeartbeats 4000000 in
/-- X9.count -/
theorem s_148 (a1 : Int32) (H : mzH) (hI : gI SX H) (hJ : JX H) : gCall 148 [.ref 0, .int a1] H (gRi (fun v H' => H = H')) := by
  refine gG_call [(0, .ref 0), (1, .int a1)] ⟨rfl, rfl, trivial⟩ ?_
  show gG 2 zB_148 (mzBlk zB_148 0) [(0, .ref 0), (1, .int a1)] [] H 0 0 _
  refine g_iload_n rfl ?_
  refine g_sw (by decide) (fun c45 => ?_) ⟨fun c45 => ?_, fun c45 => ?_, fun c45 => ?_, fun c45 => ?_, fun c45 => ?_, fun c45 => ?_, fun c45 => ?_, trivial⟩
  · refine g_iconst (by decide) (fun v46 kv46 => ?_)
    exact g_iret ⟨_, rfl, rfl⟩
  · refine g_aload_n rfl ?_
    refine g_gfr hI sx_0 rfl ?_
    refine g_gfi hI sx_3 rfl (fun v47 ev47 lv47 uv47 => ?_)
    exact g_iret ⟨_, rfl, rfl⟩
  · refine g_aload_n rfl ?_
    refine g_gfr hI sx_0 rfl ?_
    refine g_gfi hI sx_3 rfl (fun v48 ev48 lv48 uv48 => ?_)
    exact g_iret ⟨_, rfl, rfl⟩
  · refine g_aload_n rfl ?_
    refine g_gfr hI sx_0 rfl ?_
    refine g_gfi hI sx_3 rfl (fun v49 ev49 lv49 uv49 => ?_)
    exact g_iret ⟨_, rfl, rfl⟩
  · refine g_aload_n rfl ?_
    refine g_gfr hI sx_0 rfl ?_
    refine g_invvi hI sx_3 rfl rfl rfl rfl (s_21 3 zBo_3 H hI hJ) (fun v52 H50 r51 => ?_)
    obtain rfl := r51
    exact g_iret ⟨_, rfl, rfl⟩
  · refine g_aload_n rfl ?_
    refine g_gfr hI sx_0 rfl ?_
    refine g_gfi hI sx_3 rfl (fun v53 ev53 lv53 uv53 => ?_)
    exact g_iret ⟨_, rfl, rfl⟩
  · refine g_aload_n rfl ?_
    refine g_gfr hI sx_0 rfl ?_
    refine g_gfi hI sx_3 rfl (fun v54 ev54 lv54 uv54 => ?_)
    exact g_iret ⟨_, rfl, rfl⟩
  · refine g_aload_n rfl ?_
    refine g_gfr hI sx_0 rfl ?_
    refine g_gfi hI sx_1 rfl (fun v55 ev55 lv55 uv55 => ?_)
    exact g_iret ⟨_, rfl, rfl⟩
