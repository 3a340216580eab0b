theorem is_e {v : Int64} {P : Nat → Prop} {x y : Nat} (h : isS v P x) (e : x = y) : isS v P y := e ▸ h
theorem is_cg {v : Int64} {P Q : Nat → Prop} {x : Nat} (h : isS v P x) (e : ∀ k, P k ↔ Q k) : isS v Q x := fun k hk => by rw [h k hk, e k]
set_option maxRecDepth 4000 in
set_option maxHeartbeats 4000000 in
/-- X8.contents -/
theorem w_104 {s : pS} (w : Nat) (hw : zWo w) (a1 : Int32) (H : mzH) (hI : gI SX H) (hJ : JX H) (hp0 : wdX H w s) : gCall 104 [.ref w, .int a1] H (gRl (fun v H' => H = H' ∧ isS v (fun x => inn s x a1.toInt = 1) 40)) := by
  obtain ⟨hwr, hw0, hw1, hw2, hw3, hw4, hw5, hw6⟩ := id hw
  refine gG_call [(0, .ref w), (1, .int a1)] ⟨rfl, rfl, trivial⟩ ?_
  show gG 5 zB_104 (mzBlk zB_104 0) [(0, .ref w), (1, .int a1)] [] H 0 0 _
  refine g_lconst (fun v189 ov189 => ?_)
  refine g_lstore_n (l' := [(0, .ref w), (1, .int a1), (2, .long v189)]) rfl rfl ?_
  refine g_iconst (by decide) (fun v190 kv190 => ?_)
  refine g_istore (l' := [(0, .ref w), (1, .int a1), (2, .long v189), (4, .int v190)]) rfl rfl ?_
  refine g_nop ?_
  have L193 : ∀ (N : Nat) (v191 : Int64) (v192 : Int32), (0 ≤ v192.toInt ∧ v192.toInt ≤ 40) → isS v191 (fun x => inn s x a1.toInt = 1) v192.toInt.toNat → (40 - v192.toInt).toNat < N → gG 5 zB_104 (mzBlk zB_104 1) [(0, .ref w), (1, .int a1), (2, .long v191), (4, .int v192)] [] H 0 0 (gRl (fun v H' => H = H' ∧ isS v (fun x => inn s x a1.toInt = 1) 40)) := by
    intro N
    induction N with
    | zero => intro v191 v192 bv192 q1 hmL193; exact absurd hmL193 (Nat.not_lt_zero _)
    | succ N ihL193 =>
      intro v191 v192 bv192 q1 hmL193
      refine g_iload rfl ?_
      refine g_bipush (by decide) (fun v194 kv194 => ?_)
      refine g_if2_ge (fun c195 => ?_) (fun c195 => ?_)
      · refine g_lload_n rfl ?_
        exact g_lret ⟨_, rfl, rfl, (is_e q1 (by omega))⟩
      · refine g_aload_n rfl ?_
        refine g_iload rfl ?_
        refine g_iload_n rfl ?_
        refine g_invvi hI hw0 rfl rfl rfl rfl (w_90 w hw v192 (by omega) a1 H hI hJ hp0) (fun v198 H196 r197 => ?_)
        obtain ⟨rfl, bv198, p199⟩ := r197
        refine g_if_eq (fun c200 => ?_) (fun c200 => ?_)
        · refine g_iinc (l' := (fun v201 => [(0, .ref w), (1, .int a1), (2, .long v191), (4, .int v201)])) rfl rfl (by decide) (by omega) (fun _ => rfl) (fun v201 ev201 => ?_)
          refine g_goto ?_
          exact ihL193 v191 v201 (by omega) (is_n q1 (by omega) (by show ¬ inn s v192.toInt.toNat a1.toInt = 1; omega)) (by omega)
        · refine g_lload_n rfl ?_
          refine g_lconst (fun v202 ov202 => ?_)
          refine g_iload rfl ?_
          refine g_lshl (fun v203 ov203 => ?_)
          refine g_lor (fun v204 ov204 => ?_)
          refine g_lstore_n (l' := [(0, .ref w), (1, .int a1), (2, .long v204), (4, .int v192)]) rfl rfl ?_
          refine g_nop ?_
          refine g_iinc (l' := (fun v205 => [(0, .ref w), (1, .int a1), (2, .long v204), (4, .int v205)])) rfl rfl (by decide) (by omega) (fun _ => rfl) (fun v205 ev205 => ?_)
          refine g_goto ?_
          exact ihL193 v204 v205 (by omega) (is_y q1 ov203 ov202 ov204 (by omega) rfl (by omega) (by show inn s v192.toInt.toNat a1.toInt = 1; omega)) (by omega)
  exact L193 _ v189 v190 (by omega) (is_0 ov189 (by omega)) (Nat.lt_succ_self _)
set_option maxRecDepth 4000 in
set_option maxHeartbeats 4000000 in
/-- X8.allAt -/
theorem w_105 {s : pS} (w : Nat) (hw : zWo w) (a1 : Int32) (H : mzH) (hI : gI SX H) (hJ : JX H) (hp0 : wdX H w s) : gCall 105 [.ref w, .int a1] H (gRl (fun v H' => H = H' ∧ isS v (fun x => whr s x = a1.toInt) 40)) := by
  obtain ⟨hwr, hw0, hw1, hw2, hw3, hw4, hw5, hw6⟩ := id hw
  refine gG_call [(0, .ref w), (1, .int a1)] ⟨rfl, rfl, trivial⟩ ?_
  show gG 5 zB_105 (mzBlk zB_105 0) [(0, .ref w), (1, .int a1)] [] H 0 0 _
  refine g_lconst (fun v189 ov189 => ?_)
  refine g_lstore_n (l' := [(0, .ref w), (1, .int a1), (2, .long v189)]) rfl rfl ?_
  refine g_iconst (by decide) (fun v190 kv190 => ?_)
  refine g_istore (l' := [(0, .ref w), (1, .int a1), (2, .long v189), (4, .int v190)]) rfl rfl ?_
  refine g_nop ?_
  have L193 : ∀ (N : Nat) (v191 : Int64) (v192 : Int32), (0 ≤ v192.toInt ∧ v192.toInt ≤ 40) → isS v191 (fun x => whr s x = a1.toInt) v192.toInt.toNat → (40 - v192.toInt).toNat < N → gG 5 zB_105 (mzBlk zB_105 1) [(0, .ref w), (1, .int a1), (2, .long v191), (4, .int v192)] [] H 0 0 (gRl (fun v H' => H = H' ∧ isS v (fun x => whr s x = a1.toInt) 40)) := by
    intro N
    induction N with
    | zero => intro v191 v192 bv192 q1 hmL193; exact absurd hmL193 (Nat.not_lt_zero _)
    | succ N ihL193 =>
      intro v191 v192 bv192 q1 hmL193
      refine g_iload rfl ?_
      refine g_bipush (by decide) (fun v194 kv194 => ?_)
      refine g_if2_ge (fun c195 => ?_) (fun c195 => ?_)
      · refine g_lload_n rfl ?_
        exact g_lret ⟨_, rfl, rfl, (is_e q1 (by omega))⟩
      · refine g_aload_n rfl ?_
        refine g_iload rfl ?_
        refine g_invvi hI hw0 rfl rfl rfl rfl (w_91 w hw v192 (by omega) H hI hJ hp0) (fun v198 H196 r197 => ?_)
        obtain ⟨rfl, p199⟩ := r197
        refine g_iload_n rfl ?_
        refine g_if2_ne (fun c200 => ?_) (fun c200 => ?_)
        · refine g_iinc (l' := (fun v201 => [(0, .ref w), (1, .int a1), (2, .long v191), (4, .int v201)])) rfl rfl (by decide) (by omega) (fun _ => rfl) (fun v201 ev201 => ?_)
          refine g_goto ?_
          exact ihL193 v191 v201 (by omega) (is_n q1 (by omega) (by show ¬ whr s v192.toInt.toNat = a1.toInt; omega)) (by omega)
        · refine g_lload_n rfl ?_
          refine g_lconst (fun v202 ov202 => ?_)
          refine g_iload rfl ?_
          refine g_lshl (fun v203 ov203 => ?_)
          refine g_lor (fun v204 ov204 => ?_)
          refine g_lstore_n (l' := [(0, .ref w), (1, .int a1), (2, .long v204), (4, .int v192)]) rfl rfl ?_
          refine g_nop ?_
          refine g_iinc (l' := (fun v205 => [(0, .ref w), (1, .int a1), (2, .long v204), (4, .int v205)])) rfl rfl (by decide) (by omega) (fun _ => rfl) (fun v205 ev205 => ?_)
          refine g_goto ?_
          exact ihL193 v204 v205 (by omega) (is_y q1 ov203 ov202 ov204 (by omega) rfl (by omega) (by show whr s v192.toInt.toNat = a1.toInt; omega)) (by omega)
  exact L193 _ v189 v190 (by omega) (is_0 ov189 (by omega)) (Nat.lt_succ_self _)
set_option maxRecDepth 4000 in
set_option maxHeartbeats 4000000 in
/-- X8.allKnownBy -/
theorem w_106 {s : pS} (w : Nat) (hw : zWo w) (a1 : Int32) (H : mzH) (hI : gI SX H) (hJ : JX H) (hp0 : wdX H w s) : gCall 106 [.ref w, .int a1] H (gRl (fun v H' => H = H' ∧ isS v (fun x => 0 ≤ whr s x ∧ s.la (tp s x) ≤ a1.toInt) 40)) := by
  obtain ⟨hwr, hw0, hw1, hw2, hw3, hw4, hw5, hw6⟩ := id hw
  refine gG_call [(0, .ref w), (1, .int a1)] ⟨rfl, rfl, trivial⟩ ?_
  show gG 5 zB_106 (mzBlk zB_106 0) [(0, .ref w), (1, .int a1)] [] H 0 0 _
  refine g_lconst (fun v261 ov261 => ?_)
  refine g_lstore_n (l' := [(0, .ref w), (1, .int a1), (2, .long v261)]) rfl rfl ?_
  refine g_iconst (by decide) (fun v262 kv262 => ?_)
  refine g_istore (l' := [(0, .ref w), (1, .int a1), (2, .long v261), (4, .int v262)]) rfl rfl ?_
  refine g_nop ?_
  have L265 : ∀ (N : Nat) (v263 : Int64) (v264 : Int32), (0 ≤ v264.toInt ∧ v264.toInt ≤ 40) → isS v263 (fun x => 0 ≤ whr s x ∧ s.la (tp s x) ≤ a1.toInt) v264.toInt.toNat → (40 - v264.toInt).toNat < N → gG 5 zB_106 (mzBlk zB_106 1) [(0, .ref w), (1, .int a1), (2, .long v263), (4, .int v264)] [] H 0 0 (gRl (fun v H' => H = H' ∧ isS v (fun x => 0 ≤ whr s x ∧ s.la (tp s x) ≤ a1.toInt) 40)) := by
    intro N
    induction N with
    | zero => intro v263 v264 bv264 q1 hmL265; exact absurd hmL265 (Nat.not_lt_zero _)
    | succ N ihL265 =>
      intro v263 v264 bv264 q1 hmL265
      refine g_iload rfl ?_
      refine g_bipush (by decide) (fun v266 kv266 => ?_)
      refine g_if2_ge (fun c267 => ?_) (fun c267 => ?_)
      · refine g_lload_n rfl ?_
        exact g_lret ⟨_, rfl, rfl, (is_e q1 (by omega))⟩
      · refine g_aload_n rfl ?_
        refine g_iload rfl ?_
        refine g_invvi hI hw0 rfl rfl rfl rfl (w_91 w hw v264 (by omega) H hI hJ hp0) (fun v270 H268 r269 => ?_)
        obtain ⟨rfl, p271⟩ := r269
        refine g_if_lt (fun c272 => ?_) (fun c272 => ?_)
        · refine g_iinc (l' := (fun v273 => [(0, .ref w), (1, .int a1), (2, .long v263), (4, .int v273)])) rfl rfl (by decide) (by omega) (fun _ => rfl) (fun v273 ev273 => ?_)
          refine g_goto ?_
          exact ihL265 v263 v273 (by omega) (is_n q1 (by omega) (by show ¬ (0 ≤ whr s v264.toInt.toNat ∧ s.la (tp s v264.toInt.toNat) ≤ a1.toInt); omega)) (by omega)
        · refine g_aload_n rfl ?_
          refine g_iload rfl ?_
          refine g_invvi hI hw0 rfl rfl rfl rfl (w_92 w hw v264 (by omega) H hI hJ hp0) (fun v276 H274 r275 => ?_)
          obtain ⟨rfl, p277⟩ := r275
          refine g_iload_n rfl ?_
          refine g_if2_gt (fun c278 => ?_) (fun c278 => ?_)
          · refine g_iinc (l' := (fun v279 => [(0, .ref w), (1, .int a1), (2, .long v263), (4, .int v279)])) rfl rfl (by decide) (by omega) (fun _ => rfl) (fun v279 ev279 => ?_)
            refine g_goto ?_
            exact ihL265 v263 v279 (by omega) (is_n q1 (by omega) (by show ¬ (0 ≤ whr s v264.toInt.toNat ∧ s.la (tp s v264.toInt.toNat) ≤ a1.toInt); omega)) (by omega)
          · refine g_lload_n rfl ?_
            refine g_lconst (fun v280 ov280 => ?_)
            refine g_iload rfl ?_
            refine g_lshl (fun v281 ov281 => ?_)
            refine g_lor (fun v282 ov282 => ?_)
            refine g_lstore_n (l' := [(0, .ref w), (1, .int a1), (2, .long v282), (4, .int v264)]) rfl rfl ?_
            refine g_nop ?_
            refine g_iinc (l' := (fun v283 => [(0, .ref w), (1, .int a1), (2, .long v282), (4, .int v283)])) rfl rfl (by decide) (by omega) (fun _ => rfl) (fun v283 ev283 => ?_)
            refine g_goto ?_
            exact ihL265 v282 v283 (by omega) (is_y q1 ov281 ov280 ov282 (by omega) rfl (by omega) (by show 0 ≤ whr s v264.toInt.toNat ∧ s.la (tp s v264.toInt.toNat) ≤ a1.toInt; omega)) (by omega)
  exact L265 _ v261 v262 (by omega) (is_0 ov261 (by omega)) (Nat.lt_succ_self _)
set_option maxRecDepth 4000 in
set_option maxHeartbeats 4000000 in
/-- X8.clumpsAt -/
theorem w_108 {s : pS} (w : Nat) (hw : zWo w) (a1 : Int32) (H : mzH) (hI : gI SX H) (hJ : JX H) (hp0 : wdX H w s) : gCall 108 [.ref w, .int a1] H (gRi (fun v H' => H = H' ∧ v.toInt = cnt (fun x => whr s x = a1.toInt ∧ (s.ii x < 0 ∨ s.op (s.ii x).toNat = 1)) 40)) := by
  obtain ⟨hwr, hw0, hw1, hw2, hw3, hw4, hw5, hw6⟩ := id hw
  refine gG_call [(0, .ref w), (1, .int a1)] ⟨rfl, rfl, trivial⟩ ?_
  show gG 4 zB_108 (mzBlk zB_108 0) [(0, .ref w), (1, .int a1)] [] H 0 0 _
  refine g_iconst (by decide) (fun v729 kv729 => ?_)
  refine g_istore_n (l' := [(0, .ref w), (1, .int a1), (2, .int v729)]) rfl rfl ?_
  refine g_iconst (by decide) (fun v730 kv730 => ?_)
  refine g_istore_n (l' := [(0, .ref w), (1, .int a1), (2, .int v729), (3, .int v730)]) rfl rfl ?_
  refine g_nop ?_
  have L733 : ∀ (N : Nat) (v731 : Int32) (v732 : Int32), (0 ≤ v731.toInt ∧ v731.toInt ≤ 40) → (0 ≤ v732.toInt ∧ v732.toInt ≤ 40) → v731.toInt = cnt (fun x => whr s x = a1.toInt ∧ (s.ii x < 0 ∨ s.op (s.ii x).toNat = 1)) v732.toInt.toNat → v731.toInt ≤ v732.toInt → (40 - v732.toInt).toNat < N → gG 4 zB_108 (mzBlk zB_108 1) [(0, .ref w), (1, .int a1), (2, .int v731), (3, .int v732)] [] H 0 0 (gRi (fun v H' => H = H' ∧ v.toInt = cnt (fun x => whr s x = a1.toInt ∧ (s.ii x < 0 ∨ s.op (s.ii x).toNat = 1)) 40)) := by
    intro N
    induction N with
    | zero => intro v731 v732 bv731 bv732 q1 q2 hmL733; exact absurd hmL733 (Nat.not_lt_zero _)
    | succ N ihL733 =>
      intro v731 v732 bv731 bv732 q1 q2 hmL733
      refine g_iload_n rfl ?_
      refine g_bipush (by decide) (fun v734 kv734 => ?_)
      refine g_if2_ge (fun c735 => ?_) (fun c735 => ?_)
      · refine g_iload_n rfl ?_
        exact g_iret ⟨_, rfl, rfl, (cn_end q1 (by omega))⟩
      · refine g_aload_n rfl ?_
        refine g_iload_n rfl ?_
        refine g_invvi hI hw0 rfl rfl rfl rfl (w_91 w hw v732 (by omega) H hI hJ hp0) (fun v738 H736 r737 => ?_)
        obtain ⟨rfl, p739⟩ := r737
        refine g_iload_n rfl ?_
        refine g_if2_ne (fun c740 => ?_) (fun c740 => ?_)
        · refine g_iinc (l' := (fun v741 => [(0, .ref w), (1, .int a1), (2, .int v731), (3, .int v741)])) rfl rfl (by decide) (by omega) (fun _ => rfl) (fun v741 ev741 => ?_)
          refine g_goto ?_
          exact ihL733 v731 v741 (by omega) (by omega) (cn_n q1 (by omega) (by show ¬ (whr s v732.toInt.toNat = a1.toInt ∧ (s.ii v732.toInt.toNat < 0 ∨ s.op (s.ii v732.toInt.toNat).toNat = 1)); omega) (by omega)) (by omega) (by omega)
        · refine g_aload_n rfl ?_
          refine g_gfr hI hw0 rfl ?_
          refine g_iload_n rfl ?_
          refine g_iaload hI hw2 rfl (by omega) (fun v742 ev742 lv742 uv742 => ?_)
          have yv742 : v742.toInt = (s).ii v732.toInt.toNat := by rw [ev742]; exact (hp0 _ (by omega)).2.1
          refine g_if_lt (fun c743 => ?_) (fun c743 => ?_)
          · refine g_iinc (l' := (fun v744 => [(0, .ref w), (1, .int a1), (2, .int v744), (3, .int v732)])) rfl rfl (by decide) (by omega) (fun _ => rfl) (fun v744 ev744 => ?_)
            refine g_nop ?_
            refine g_iinc (l' := (fun v745 => [(0, .ref w), (1, .int a1), (2, .int v744), (3, .int v745)])) rfl rfl (by decide) (by omega) (fun _ => rfl) (fun v745 ev745 => ?_)
            refine g_goto ?_
            exact ihL733 v744 v745 (by omega) (by omega) (cn_y q1 (by omega) (by show (whr s v732.toInt.toNat = a1.toInt ∧ (s.ii v732.toInt.toNat < 0 ∨ s.op (s.ii v732.toInt.toNat).toNat = 1)); omega) (by omega)) (by omega) (by omega)
          · refine g_aload_n rfl ?_
            refine g_aload_n rfl ?_
            refine g_gfr hI hw0 rfl ?_
            refine g_iload_n rfl ?_
            refine g_ialoadk hI hw2 rfl (by omega) ev742 ?_
            refine g_iconst (by decide) (fun v746 kv746 => ?_)
            refine g_invvi hI hw0 rfl rfl rfl rfl (w_85 w hw v742 (by omega) v746 H hI hJ hp0 (by omega)) (fun v749 H747 r748 => ?_)
            obtain ⟨rfl, bv749, p750⟩ := r748
            rw [kv746, mkb_1] at p750
            have p2v749 := p750
            rw [yv742] at p2v749
            refine g_if_eq (fun c751 => ?_) (fun c751 => ?_)
            · refine g_iinc (l' := (fun v752 => [(0, .ref w), (1, .int a1), (2, .int v731), (3, .int v752)])) rfl rfl (by decide) (by omega) (fun _ => rfl) (fun v752 ev752 => ?_)
              refine g_goto ?_
              exact ihL733 v731 v752 (by omega) (by omega) (cn_n q1 (by omega) (by show ¬ (whr s v732.toInt.toNat = a1.toInt ∧ (s.ii v732.toInt.toNat < 0 ∨ s.op (s.ii v732.toInt.toNat).toNat = 1)); omega) (by omega)) (by omega) (by omega)
            · refine g_nop ?_
              refine g_iinc (l' := (fun v753 => [(0, .ref w), (1, .int a1), (2, .int v753), (3, .int v732)])) rfl rfl (by decide) (by omega) (fun _ => rfl) (fun v753 ev753 => ?_)
              refine g_nop ?_
              refine g_iinc (l' := (fun v754 => [(0, .ref w), (1, .int a1), (2, .int v753), (3, .int v754)])) rfl rfl (by decide) (by omega) (fun _ => rfl) (fun v754 ev754 => ?_)
              refine g_goto ?_
              exact ihL733 v753 v754 (by omega) (by omega) (cn_y q1 (by omega) (by show (whr s v732.toInt.toNat = a1.toInt ∧ (s.ii v732.toInt.toNat < 0 ∨ s.op (s.ii v732.toInt.toNat).toNat = 1)); omega) (by omega)) (by omega) (by omega)
  exact L733 _ v729 v730 (by omega) (by omega) (cn_0 (by omega) (by omega)) (by omega) (Nat.lt_succ_self _)
set_option maxRecDepth 4000 in
set_option maxHeartbeats 4000000 in
/-- X9.pick -/
theorem w_153  (a0 : Int64) (a1 : Int32) (H : mzH) (hI : gI SX H) (hJ : JX H) (hp0 : 0 ≤ a1.toInt) : gCall 153 [.long a0, .int a1] H (gRi (fun v H' => H = H' ∧ v.toInt = pkF (lbi a0) 64 0 a1.toInt)) := by
  refine gG_call [(0, .long a0), (2, .int a1)] ⟨rfl, rfl, trivial⟩ ?_
  show gG 5 zB_153 (mzBlk zB_153 0) [(0, .long a0), (2, .int a1)] [] H 0 0 _
  refine g_iconst (by decide) (fun v506 kv506 => ?_)
  refine g_istore_n (l' := [(0, .long a0), (2, .int a1), (3, .int v506)]) rfl rfl ?_
  refine g_iconst (by decide) (fun v507 kv507 => ?_)
  refine g_istore (l' := [(0, .long a0), (2, .int a1), (3, .int v506), (4, .int v507)]) rfl rfl ?_
  refine g_nop ?_
  have L510 : ∀ (N : Nat) (v508 : Int32) (v509 : Int32), (0 ≤ v508.toInt ∧ v508.toInt ≤ 64) → (0 ≤ v509.toInt ∧ v509.toInt ≤ 64) → pkF (lbi a0) (64 - v509.toInt.toNat) v509.toInt.toNat (a1.toInt - v508.toInt) = pkF (lbi a0) 64 0 a1.toInt → v508.toInt ≤ v509.toInt → (64 - v509.toInt).toNat < N → gG 5 zB_153 (mzBlk zB_153 1) [(0, .long a0), (2, .int a1), (3, .int v508), (4, .int v509)] [] H 0 0 (gRi (fun v H' => H = H' ∧ v.toInt = pkF (lbi a0) 64 0 a1.toInt)) := by
    intro N
    induction N with
    | zero => intro v508 v509 bv508 bv509 q1 q2 hmL510; exact absurd hmL510 (Nat.not_lt_zero _)
    | succ N ihL510 =>
      intro v508 v509 bv508 bv509 q1 q2 hmL510
      refine g_iload rfl ?_
      refine g_bipush (by decide) (fun v511 kv511 => ?_)
      refine g_if2_ge (fun c512 => ?_) (fun c512 => ?_)
      · refine g_bipush (by decide) (fun v513 kv513 => ?_)
        exact g_iret ⟨_, rfl, rfl, (by rw [pk_e q1 (by omega)]; omega)⟩
      · refine g_lload_n rfl ?_
        refine g_iload rfl ?_
        refine g_lushr (fun v514 ov514 => ?_)
        refine g_lconst (fun v515 ov515 => ?_)
        refine g_land (fun v516 ov516 => ?_)
        refine g_lconst (fun v517 ov517 => ?_)
        refine g_lcmp (fun v518 ov518 => ?_)
        have zv518 := lbi_tst ov514 ov516 ov515 ov517 ov518 (by omega)
        refine g_if_eq (fun c519 => ?_) (fun c519 => ?_)
        · refine g_iinc (l' := (fun v520 => [(0, .long a0), (2, .int a1), (3, .int v508), (4, .int v520)])) rfl rfl (by decide) (by omega) (fun _ => rfl) (fun v520 ev520 => ?_)
          refine g_goto ?_
          exact ihL510 v508 v520 (by omega) (by omega) (pk_n q1 (by omega) (by omega) (by omega) (by omega)) (by omega) (by omega)
        · refine g_iload_n rfl ?_
          refine g_iload_n rfl ?_
          refine g_if2_ne (fun c521 => ?_) (fun c521 => ?_)
          · refine g_iinc (l' := (fun v522 => [(0, .long a0), (2, .int a1), (3, .int v522), (4, .int v509)])) rfl rfl (by decide) (by omega) (fun _ => rfl) (fun v522 ev522 => ?_)
            refine g_nop ?_
            refine g_iinc (l' := (fun v523 => [(0, .long a0), (2, .int a1), (3, .int v522), (4, .int v523)])) rfl rfl (by decide) (by omega) (fun _ => rfl) (fun v523 ev523 => ?_)
            refine g_goto ?_
            exact ihL510 v522 v523 (by omega) (by omega) (pk_s q1 (by omega) (by omega) (by omega) (by omega) (by omega)) (by omega) (by omega)
          · refine g_iload rfl ?_
            exact g_iret ⟨_, rfl, rfl, (by rw [← q1, pk_y (by omega) (by omega) (by omega)]; omega)⟩
  exact L510 _ v506 v507 (by omega) (by omega) (by rw [show (64 - v507.toInt.toNat) = 64 by omega, show v507.toInt.toNat = 0 by omega, show a1.toInt - v506.toInt = a1.toInt by omega]) (by omega) (Nat.lt_succ_self _)
set_option maxRecDepth 4000 in
set_option maxHeartbeats 4000000 in
/-- X9.inside -/
theorem w_121  (a1 : Int32) (a2 : Int32) (a3 : Int32) (H : mzH) (hI : gI SX H) (hJ : JX H) (hp0 : gdX H) : gCall 121 [.ref 0, .int a1, .int a2, .int a3] H (gRi (fun v H' => gI SX H' ∧ JX H' ∧ fZ H' 1 1 = fZ H 1 1 ∧ kpX H H' ∧ ((v.toInt = -1 ∧ ¬ ((0 ≤ a1.toInt ∧ a1.toInt ≤ 39) ∧ (0 ≤ a2.toInt ∧ a2.toInt ≤ 999) ∧ 0 ≤ a3.toInt)) ∨ (((0 ≤ a1.toInt ∧ a1.toInt ≤ 39) ∧ (0 ≤ a2.toInt ∧ a2.toInt ≤ 999) ∧ 0 ≤ a3.toInt) ∧ ∃ p : Nat, stX H a2.toInt p ∧ v.toInt = pkF (fun x => inn (fX H p) x a1.toInt) 40 0 a3.toInt)))) := by
  obtain ⟨k1_1, ek1_1⟩ : ∃ z, z = fZ H 1 1 := ⟨_, rfl⟩
  have ik1_1 : k1_1.toInt = (fZ H 1 1).toInt := by rw [← ek1_1]
  have bk1_1 : 0 ≤ k1_1.toInt ∧ k1_1.toInt ≤ 900 := by rw [ek1_1]; exact fZ_of hI sx_1 rfl
  have mkfr : kpX H H := kpX_r
  refine gG_call [(0, .ref 0), (1, .int a1), (2, .int a2), (3, .int a3)] ⟨rfl, rfl, rfl, rfl, trivial⟩ ?_
  show gG 4 zB_121 (mzBlk zB_121 0) [(0, .ref 0), (1, .int a1), (2, .int a2), (3, .int a3)] [] H 0 0 _
  refine g_iload_n rfl ?_
  refine g_invti rfl rfl rfl (w_149 a1 H hI hJ) (fun v123 H121 r122 => ?_)
  obtain ⟨rfl, bv123, p124⟩ := r122
  refine g_if_eq (fun c125 => ?_) (fun c125 => ?_)
  · refine g_iconst (by decide) (fun v126 kv126 => ?_)
    exact g_iret ⟨_, rfl, hI, hJ, (ek1_1.symm.trans ek1_1), mkfr, (Or.inl ⟨by omega, by omega⟩)⟩
  · refine g_iload_n rfl ?_
    refine g_invti rfl rfl rfl (w_150 a2 H hI hJ) (fun v129 H127 r128 => ?_)
    obtain ⟨rfl, bv129, p130⟩ := r128
    refine g_if_eq (fun c131 => ?_) (fun c131 => ?_)
    · refine g_iconst (by decide) (fun v132 kv132 => ?_)
      exact g_iret ⟨_, rfl, hI, hJ, (ek1_1.symm.trans ek1_1), mkfr, (Or.inl ⟨by omega, by omega⟩)⟩
    · refine g_iload_n rfl ?_
      refine g_if_ge (fun c133 => ?_) (fun c133 => ?_)
      · refine g_aload_n rfl ?_
        refine g_gfr hI sx_0 rfl ?_
        refine g_iload_n rfl ?_
        refine g_invva hI sx_24 rfl rfl rfl rfl (w_55 a2 H hI hJ hp0) (fun H134 r135 => ?_)
        obtain ⟨hIH134, hJH134, w136, m137, p138⟩ := r135
        have e139 : k1_1 = fZ H134 1 1 := ek1_1.trans w136.symm
        have m140 : kpX H H134 := kpX_t mkfr m137
        obtain ⟨p141, wdp141, stp141⟩ := p138
        have gbp141 := (hp0.2 p141 (by have := stp141.1; omega))
        obtain ⟨lap141, kdp141⟩ := gbp141
        refine g_iload_n rfl ?_
        refine g_invvl hIH134 sx_28 rfl rfl rfl rfl (w_104 28 zWo_28 a1 H134 hIH134 hJH134 wdp141) (fun v144 H142 r143 => ?_)
        obtain ⟨rfl, p145⟩ := r143
        refine g_iload_n rfl ?_
        refine g_invti rfl rfl rfl (w_153 v144 a3 H134 hIH134 hJH134 (by omega)) (fun v148 H146 r147 => ?_)
        obtain ⟨rfl, p149⟩ := r147
        exact g_iret ⟨_, rfl, hIH134, hJH134, (e139.symm.trans ek1_1), m140, (Or.inr ⟨by omega, p141, stp141, (by rw [p149]; exact pk_set p145 (fun k hk => Iff.rfl))⟩)⟩
      · refine g_nop ?_
        refine g_iconst (by decide) (fun v150 kv150 => ?_)
        exact g_iret ⟨_, rfl, hI, hJ, (ek1_1.symm.trans ek1_1), mkfr, (Or.inl ⟨by omega, by omega⟩)⟩
set_option maxRecDepth 4000 in
set_option maxHeartbeats 4000000 in
/-- X9.lost -/
theorem w_142  (a1 : Int32) (a2 : Int32) (a3 : Int32) (H : mzH) (hI : gI SX H) (hJ : JX H) (hp0 : gdX H) : gCall 142 [.ref 0, .int a1, .int a2, .int a3] H (gRi (fun v H' => gI SX H' ∧ JX H' ∧ fZ H' 1 1 = fZ H 1 1 ∧ kpX H H' ∧ ((v.toInt = -1 ∧ ¬ ((0 ≤ a1.toInt ∧ a1.toInt ≤ 999) ∧ (0 ≤ a2.toInt ∧ a2.toInt ≤ 999) ∧ 0 ≤ a3.toInt)) ∨ (((0 ≤ a1.toInt ∧ a1.toInt ≤ 999) ∧ (0 ≤ a2.toInt ∧ a2.toInt ≤ 999) ∧ 0 ≤ a3.toInt) ∧ ∃ p : Nat, stX H a1.toInt p ∧ v.toInt = pkF (fun x => if 0 ≤ whr (fX H p) x ∧ (fX H p).la (tp (fX H p) x) ≤ a1.toInt - a2.toInt then 1 else 0) 40 0 a3.toInt)))) := by
  obtain ⟨k1_1, ek1_1⟩ : ∃ z, z = fZ H 1 1 := ⟨_, rfl⟩
  have ik1_1 : k1_1.toInt = (fZ H 1 1).toInt := by rw [← ek1_1]
  have bk1_1 : 0 ≤ k1_1.toInt ∧ k1_1.toInt ≤ 900 := by rw [ek1_1]; exact fZ_of hI sx_1 rfl
  have mkfr : kpX H H := kpX_r
  refine gG_call [(0, .ref 0), (1, .int a1), (2, .int a2), (3, .int a3)] ⟨rfl, rfl, rfl, rfl, trivial⟩ ?_
  show gG 4 zB_142 (mzBlk zB_142 0) [(0, .ref 0), (1, .int a1), (2, .int a2), (3, .int a3)] [] H 0 0 _
  refine g_iload_n rfl ?_
  refine g_invti rfl rfl rfl (w_150 a1 H hI hJ) (fun v127 H125 r126 => ?_)
  obtain ⟨rfl, bv127, p128⟩ := r126
  refine g_if_eq (fun c129 => ?_) (fun c129 => ?_)
  · refine g_iconst (by decide) (fun v130 kv130 => ?_)
    exact g_iret ⟨_, rfl, hI, hJ, (ek1_1.symm.trans ek1_1), mkfr, (Or.inl ⟨by omega, by omega⟩)⟩
  · refine g_iload_n rfl ?_
    refine g_invti rfl rfl rfl (w_150 a2 H hI hJ) (fun v133 H131 r132 => ?_)
    obtain ⟨rfl, bv133, p134⟩ := r132
    refine g_if_eq (fun c135 => ?_) (fun c135 => ?_)
    · refine g_iconst (by decide) (fun v136 kv136 => ?_)
      exact g_iret ⟨_, rfl, hI, hJ, (ek1_1.symm.trans ek1_1), mkfr, (Or.inl ⟨by omega, by omega⟩)⟩
    · refine g_iload_n rfl ?_
      refine g_if_ge (fun c137 => ?_) (fun c137 => ?_)
      · refine g_aload_n rfl ?_
        refine g_gfr hI sx_0 rfl ?_
        refine g_iload_n rfl ?_
        refine g_invva hI sx_24 rfl rfl rfl rfl (w_55 a1 H hI hJ hp0) (fun H138 r139 => ?_)
        obtain ⟨hIH138, hJH138, w140, m141, p142⟩ := r139
        have e143 : k1_1 = fZ H138 1 1 := ek1_1.trans w140.symm
        have m144 : kpX H H138 := kpX_t mkfr m141
        obtain ⟨p145, wdp145, stp145⟩ := p142
        have gbp145 := (hp0.2 p145 (by have := stp145.1; omega))
        obtain ⟨lap145, kdp145⟩ := gbp145
        refine g_iload_n rfl ?_
        refine g_iload_n rfl ?_
        refine g_isub (by omega) (fun v146 ev146 => ?_)
        refine g_invvl hIH138 sx_28 rfl rfl rfl rfl (w_106 28 zWo_28 v146 H138 hIH138 hJH138 wdp145) (fun v149 H147 r148 => ?_)
        obtain ⟨rfl, p150⟩ := r148
        refine g_iload_n rfl ?_
        refine g_invti rfl rfl rfl (w_153 v149 a3 H138 hIH138 hJH138 (by omega)) (fun v153 H151 r152 => ?_)
        obtain ⟨rfl, p154⟩ := r152
        exact g_iret ⟨_, rfl, hIH138, hJH138, (e143.symm.trans ek1_1), m144, (Or.inr ⟨by omega, p145, stp145, (by rw [p154]; exact pk_set (is_cg p150 (fun k => by rw [show v146.toInt = a1.toInt - a2.toInt by omega])) (fun k hk => ⟨fun z => by rw [if_pos z], fun z => by split at z; assumption; exact absurd z (by decide)⟩))⟩)⟩
      · refine g_nop ?_
        refine g_iconst (by decide) (fun v155 kv155 => ?_)
        exact g_iret ⟨_, rfl, hI, hJ, (ek1_1.symm.trans ek1_1), mkfr, (Or.inl ⟨by omega, by omega⟩)⟩
set_option maxRecDepth 4000 in
set_option maxHeartbeats 4000000 in
/-- X9.isPlaceOrSold -/
theorem w_151  (a1 : Int32) (H : mzH) (hI : gI SX H) (hJ : JX H) : gCall 151 [.ref 0, .int a1] H (gRi (fun v H' => H = H' ∧ (0 ≤ v.toInt ∧ v.toInt ≤ 1) ∧ ((v.toInt = 1 ∧ (a1.toInt = -3 ∨ (0 ≤ a1.toInt ∧ a1.toInt < (fZ H 3 7).toInt))) ∨ (v.toInt = 0 ∧ ¬ (a1.toInt = -3 ∨ (0 ≤ a1.toInt ∧ a1.toInt < (fZ H 3 7).toInt)))))) := by
  refine gG_call [(0, .ref 0), (1, .int a1)] ⟨rfl, rfl, trivial⟩ ?_
  show gG 2 zB_151 (mzBlk zB_151 0) [(0, .ref 0), (1, .int a1)] [] H 0 0 _
  refine g_iload_n rfl ?_
  refine g_bipush (by decide) (fun v41 kv41 => ?_)
  refine g_if2_eq (fun c42 => ?_) (fun c42 => ?_)
  · refine g_iconst (by decide) (fun v43 kv43 => ?_)
    refine g_goto ?_
    exact g_zret (by omega) ⟨_, rfl, rfl, (by omega), (by omega)⟩
  · refine g_aload_n rfl ?_
    refine g_gfr hI sx_0 rfl ?_
    refine g_iload_n rfl ?_
    refine g_invvi hI sx_3 rfl rfl rfl rfl (w_11 a1 H hI hJ) (fun v46 H44 r45 => ?_)
    obtain ⟨rfl, bv46, p47⟩ := r45
    refine g_if_eq (fun c48 => ?_) (fun c48 => ?_)
    · refine g_iconst (by decide) (fun v49 kv49 => ?_)
      refine g_nop ?_
      exact g_zret (by omega) ⟨_, rfl, rfl, (by omega), (by omega)⟩
    · refine g_nop ?_
      refine g_iconst (by decide) (fun v50 kv50 => ?_)
      refine g_goto ?_
      exact g_zret (by omega) ⟨_, rfl, rfl, (by omega), (by omega)⟩
set_option maxRecDepth 4000 in
set_option maxHeartbeats 4000000 in
/-- X9.isWhereabouts -/
theorem w_152  (a1 : Int32) (H : mzH) (hI : gI SX H) (hJ : JX H) : gCall 152 [.ref 0, .int a1] H (gRi (fun v H' => H = H' ∧ (0 ≤ v.toInt ∧ v.toInt ≤ 1) ∧ ((v.toInt = 1 ∧ (a1.toInt = -4 ∨ a1.toInt = -3 ∨ (0 ≤ a1.toInt ∧ a1.toInt < (fZ H 3 7).toInt))) ∨ (v.toInt = 0 ∧ ¬ (a1.toInt = -4 ∨ a1.toInt = -3 ∨ (0 ≤ a1.toInt ∧ a1.toInt < (fZ H 3 7).toInt)))))) := by
  refine gG_call [(0, .ref 0), (1, .int a1)] ⟨rfl, rfl, trivial⟩ ?_
  show gG 2 zB_152 (mzBlk zB_152 0) [(0, .ref 0), (1, .int a1)] [] H 0 0 _
  refine g_iload_n rfl ?_
  refine g_bipush (by decide) (fun v41 kv41 => ?_)
  refine g_if2_eq (fun c42 => ?_) (fun c42 => ?_)
  · refine g_iconst (by decide) (fun v43 kv43 => ?_)
    refine g_goto ?_
    exact g_zret (by omega) ⟨_, rfl, rfl, (by omega), (by omega)⟩
  · refine g_aload_n rfl ?_
    refine g_iload_n rfl ?_
    refine g_invvi hI sx_0 rfl rfl rfl rfl (w_151 a1 H hI hJ) (fun v46 H44 r45 => ?_)
    obtain ⟨rfl, bv46, p47⟩ := r45
    refine g_if_eq (fun c48 => ?_) (fun c48 => ?_)
    · refine g_iconst (by decide) (fun v49 kv49 => ?_)
      refine g_nop ?_
      exact g_zret (by omega) ⟨_, rfl, rfl, (by omega), (by omega)⟩
    · refine g_nop ?_
      refine g_iconst (by decide) (fun v50 kv50 => ?_)
      refine g_goto ?_
      exact g_zret (by omega) ⟨_, rfl, rfl, (by omega), (by omega)⟩
set_option maxRecDepth 4000 in
set_option maxHeartbeats 4000000 in
/-- X9.there -/
theorem w_122  (a1 : Int32) (a2 : Int32) (a3 : Int32) (H : mzH) (hI : gI SX H) (hJ : JX H) (hp0 : gdX H) : gCall 122 [.ref 0, .int a1, .int a2, .int a3] H (gRi (fun v H' => gI SX H' ∧ JX H' ∧ fZ H' 1 1 = fZ H 1 1 ∧ kpX H H' ∧ ((v.toInt = -1 ∧ ¬ ((a1.toInt = -4 ∨ a1.toInt = -3 ∨ (0 ≤ a1.toInt ∧ a1.toInt < (fZ H 3 7).toInt)) ∧ (0 ≤ a2.toInt ∧ a2.toInt ≤ 999) ∧ 0 ≤ a3.toInt)) ∨ (((a1.toInt = -4 ∨ a1.toInt = -3 ∨ (0 ≤ a1.toInt ∧ a1.toInt < (fZ H 3 7).toInt)) ∧ (0 ≤ a2.toInt ∧ a2.toInt ≤ 999) ∧ 0 ≤ a3.toInt) ∧ ∃ p : Nat, stX H a2.toInt p ∧ v.toInt = pkF (fun x => if whr (fX H p) x = a1.toInt then 1 else 0) 40 0 a3.toInt)))) := by
  obtain ⟨k1_1, ek1_1⟩ : ∃ z, z = fZ H 1 1 := ⟨_, rfl⟩
  have ik1_1 : k1_1.toInt = (fZ H 1 1).toInt := by rw [← ek1_1]
  have bk1_1 : 0 ≤ k1_1.toInt ∧ k1_1.toInt ≤ 900 := by rw [ek1_1]; exact fZ_of hI sx_1 rfl
  have mkfr : kpX H H := kpX_r
  refine gG_call [(0, .ref 0), (1, .int a1), (2, .int a2), (3, .int a3)] ⟨rfl, rfl, rfl, rfl, trivial⟩ ?_
  show gG 4 zB_122 (mzBlk zB_122 0) [(0, .ref 0), (1, .int a1), (2, .int a2), (3, .int a3)] [] H 0 0 _
  refine g_aload_n rfl ?_
  refine g_iload_n rfl ?_
  refine g_invvi hI sx_0 rfl rfl rfl rfl (w_152 a1 H hI hJ) (fun v123 H121 r122 => ?_)
  obtain ⟨rfl, bv123, p124⟩ := r122
  refine g_if_eq (fun c125 => ?_) (fun c125 => ?_)
  · refine g_iconst (by decide) (fun v126 kv126 => ?_)
    exact g_iret ⟨_, rfl, hI, hJ, (ek1_1.symm.trans ek1_1), mkfr, (Or.inl ⟨by omega, by omega⟩)⟩
  · refine g_iload_n rfl ?_
    refine g_invti rfl rfl rfl (w_150 a2 H hI hJ) (fun v129 H127 r128 => ?_)
    obtain ⟨rfl, bv129, p130⟩ := r128
    refine g_if_eq (fun c131 => ?_) (fun c131 => ?_)
    · refine g_iconst (by decide) (fun v132 kv132 => ?_)
      exact g_iret ⟨_, rfl, hI, hJ, (ek1_1.symm.trans ek1_1), mkfr, (Or.inl ⟨by omega, by omega⟩)⟩
    · refine g_iload_n rfl ?_
      refine g_if_ge (fun c133 => ?_) (fun c133 => ?_)
      · refine g_aload_n rfl ?_
        refine g_gfr hI sx_0 rfl ?_
        refine g_iload_n rfl ?_
        refine g_invva hI sx_24 rfl rfl rfl rfl (w_55 a2 H hI hJ hp0) (fun H134 r135 => ?_)
        obtain ⟨hIH134, hJH134, w136, m137, p138⟩ := r135
        have e139 : k1_1 = fZ H134 1 1 := ek1_1.trans w136.symm
        have m140 : kpX H H134 := kpX_t mkfr m137
        obtain ⟨p141, wdp141, stp141⟩ := p138
        have gbp141 := (hp0.2 p141 (by have := stp141.1; omega))
        obtain ⟨lap141, kdp141⟩ := gbp141
        refine g_iload_n rfl ?_
        refine g_invvl hIH134 sx_28 rfl rfl rfl rfl (w_105 28 zWo_28 a1 H134 hIH134 hJH134 wdp141) (fun v144 H142 r143 => ?_)
        obtain ⟨rfl, p145⟩ := r143
        refine g_iload_n rfl ?_
        refine g_invti rfl rfl rfl (w_153 v144 a3 H134 hIH134 hJH134 (by omega)) (fun v148 H146 r147 => ?_)
        obtain ⟨rfl, p149⟩ := r147
        exact g_iret ⟨_, rfl, hIH134, hJH134, (e139.symm.trans ek1_1), m140, (Or.inr ⟨by omega, p141, stp141, (by rw [p149]; exact pk_set p145 (fun k hk => ⟨fun z => by rw [if_pos z], fun z => by split at z; assumption; exact absurd z (by decide)⟩))⟩)⟩
      · refine g_nop ?_
        refine g_iconst (by decide) (fun v150 kv150 => ?_)
        exact g_iret ⟨_, rfl, hI, hJ, (ek1_1.symm.trans ek1_1), mkfr, (Or.inl ⟨by omega, by omega⟩)⟩
set_option maxRecDepth 4000 in
set_option maxHeartbeats 4000000 in
/-- X9.components -/
theorem w_135  (a1 : Int32) (a2 : Int32) (H : mzH) (hI : gI SX H) (hJ : JX H) (hp0 : gdX H) : gCall 135 [.ref 0, .int a1, .int a2] H (gRi (fun v H' => gI SX H' ∧ JX H' ∧ fZ H' 1 1 = fZ H 1 1 ∧ kpX H H' ∧ ((v.toInt = -1 ∧ ¬ ((0 ≤ a1.toInt ∧ a1.toInt < (fZ H 3 7).toInt) ∧ (0 ≤ a2.toInt ∧ a2.toInt ≤ 999))) ∨ (((0 ≤ a1.toInt ∧ a1.toInt < (fZ H 3 7).toInt) ∧ (0 ≤ a2.toInt ∧ a2.toInt ≤ 999)) ∧ ∃ p : Nat, stX H a2.toInt p ∧ v.toInt = cnt (fun x => whr (fX H p) x = a1.toInt ∧ ((fX H p).ii x < 0 ∨ (fX H p).op ((fX H p).ii x).toNat = 1)) 40)))) := by
  obtain ⟨k1_1, ek1_1⟩ : ∃ z, z = fZ H 1 1 := ⟨_, rfl⟩
  have ik1_1 : k1_1.toInt = (fZ H 1 1).toInt := by rw [← ek1_1]
  have bk1_1 : 0 ≤ k1_1.toInt ∧ k1_1.toInt ≤ 900 := by rw [ek1_1]; exact fZ_of hI sx_1 rfl
  have mkfr : kpX H H := kpX_r
  refine gG_call [(0, .ref 0), (1, .int a1), (2, .int a2)] ⟨rfl, rfl, rfl, trivial⟩ ?_
  show gG 3 zB_135 (mzBlk zB_135 0) [(0, .ref 0), (1, .int a1), (2, .int a2)] [] H 0 0 _
  refine g_aload_n rfl ?_
  refine g_gfr hI sx_0 rfl ?_
  refine g_iload_n rfl ?_
  refine g_invvi hI sx_3 rfl rfl rfl rfl (w_11 a1 H hI hJ) (fun v99 H97 r98 => ?_)
  obtain ⟨rfl, bv99, p100⟩ := r98
  refine g_if_eq (fun c101 => ?_) (fun c101 => ?_)
  · refine g_iconst (by decide) (fun v102 kv102 => ?_)
    exact g_iret ⟨_, rfl, hI, hJ, (ek1_1.symm.trans ek1_1), mkfr, (Or.inl ⟨by omega, by omega⟩)⟩
  · refine g_iload_n rfl ?_
    refine g_invti rfl rfl rfl (w_150 a2 H hI hJ) (fun v105 H103 r104 => ?_)
    obtain ⟨rfl, bv105, p106⟩ := r104
    refine g_if_ne (fun c107 => ?_) (fun c107 => ?_)
    · refine g_aload_n rfl ?_
      refine g_gfr hI sx_0 rfl ?_
      refine g_iload_n rfl ?_
      refine g_invva hI sx_24 rfl rfl rfl rfl (w_55 a2 H hI hJ hp0) (fun H108 r109 => ?_)
      obtain ⟨hIH108, hJH108, w110, m111, p112⟩ := r109
      have e113 : k1_1 = fZ H108 1 1 := ek1_1.trans w110.symm
      have m114 : kpX H H108 := kpX_t mkfr m111
      obtain ⟨p115, wdp115, stp115⟩ := p112
      have gbp115 := (hp0.2 p115 (by have := stp115.1; omega))
      obtain ⟨lap115, kdp115⟩ := gbp115
      refine g_iload_n rfl ?_
      refine g_invvi hIH108 sx_28 rfl rfl rfl rfl (w_108 28 zWo_28 a1 H108 hIH108 hJH108 wdp115) (fun v118 H116 r117 => ?_)
      obtain ⟨rfl, p119⟩ := r117
      exact g_iret ⟨_, rfl, hIH108, hJH108, (e113.symm.trans ek1_1), m114, (Or.inr ⟨by omega, p115, stp115, p119⟩)⟩
    · refine g_nop ?_
      refine g_iconst (by decide) (fun v120 kv120 => ?_)
      exact g_iret ⟨_, rfl, hI, hJ, (ek1_1.symm.trans ek1_1), mkfr, (Or.inl ⟨by omega, by omega⟩)⟩
