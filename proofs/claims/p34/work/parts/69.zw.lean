/-! WHAT A QUESTION RESTS ON -/
theorem wrx_n {Hx Hm : mzH} {c : pB} (h : wrl Hx Hm c) : (fZ Hx 25 2).toInt = c.N ∧ 0 ≤ c.N ∧ c.N ≤ 60 := by
  obtain ⟨v, b, w, o, y⟩ := h
  refine ⟨by rw [v.1]; exact b.2.2.1, o.1.1, o.1.2⟩
theorem wrx_o {Hx Hm : mzH} {c : pB} (h : wrl Hx Hm c) : (∀ q, q < c.N.toNat → (odX Hx q : Int) < c.N) ∧ ∀ k : Nat, (k : Int) < c.N → rwO 8 (roX Hx) (hoX Hx) k := by
  obtain ⟨v, b, w, o, y⟩ := h
  obtain ⟨v1, v2, v3⟩ := v
  have bx := b.2.2.2.2.2.2.2.1
  have nx : (fZ Hx 3 9).toInt = c.N := b.2.2.1
  refine ⟨fun q hq => ?_, fun k hk => ?_⟩
  · have z := v3 q (by rw [nx]; exact hq)
    rw [nx] at z
    have := ordF_lt (hr := fun i => (aZ Hx 6 i).toInt) c.N.toNat hq
    unfold odX
    omega
  · obtain ⟨x0, x1, x2, x3, x4⟩ := bx k hk
    obtain ⟨o1, o2, o3⟩ := o
    obtain ⟨a1, a2, a3, a4, a5, a6⟩ := o3 k hk
    have e1 : roX Hx k 1 = c.ac k := x1
    have e2 : roX Hx k 2 = c.fi k := x2
    have e3 : roX Hx k 3 = c.se k := x3
    have e4 : roX Hx k 4 = c.ki k := x4
    have e5 : hoX Hx k = c.hr k := by
      show (aZ Hx 26 k).toInt = _
      rw [v2 k]
      exact x0
    unfold rwO
    rw [e1, e2, e3, e4, e5]
    exact ⟨a1, a2, a3, a4, a5, a6⟩
theorem wf_la {P : Int} {s : pS} (h : wfS P s) : laB s := fun n hn => (h n hn).2.2.2.2.1
theorem wf_kd {P : Int} {s : pS} (h : wfS P s) : kdB s := fun n hn => (h n hn).2.1
/-- the topmost of what is made is made -/
theorem tp_mk {P : Int} {s : pS} {n : Nat} (h : wfS P s) (hn : n < 40) (hm : s.kd n ≠ -1) : tp s n < 40 ∧ s.kd (tp s n) ≠ -1 := by
  if e : s.en n = 0 then
    obtain ⟨t1, t2, _⟩ := tp_ok h hn hm e
    exact ⟨t1, t2⟩
  else
    have : tp s n = n := top_e (by
      rcases (h n hn).2.2.1 with z | z
      · exact z
      · omega)
    rw [this]
    exact ⟨hn, hm⟩
theorem laT_of {P : Int} {s r : pS} {md : Nat → Int} (hr : wRS s r md) (hw : wfS P s) : laT r md := fun n hn hm => by
  have hk : s.kd n ≠ -1 := by have := (hr n hn).1; omega
  obtain ⟨t1, t2⟩ := tp_mk hw hn hk
  rw [tp_cg hr (wf_dpt hw) hn, ((hr (tp s n) t1).2.2.2.2.2.1 t2).2.2]
  exact wf_la hw _ t1
theorem gdM_of {Hx Hm A : mzH} {c : pB} (h : wrl Hx Hm c) (t : tkW Hm A) : gdM A := by
  obtain ⟨o1, o2, o3⟩ := wrl_o h t
  obtain ⟨x1, x2⟩ := wrx_o h
  refine ⟨fun q hq => ?_, fun G hc q hq => ?_⟩
  · have := x1 q (by omega)
    rw [o1 q (by omega)] at this
    exact (o3 (odM A q) this).2.2.2.2.2.2.2.2.2.1
  · obtain ⟨w1, w2⟩ := wrl_f h t hc q (by omega)
    exact ⟨dpt_cg w1 (wf_dpt w2), laT_of w1 w2⟩
/-- where a thing is, by the reference -/
def whM (r : pS) (md : Nat → Int) (n : Nat) : Int := if md n = 0 then -2 else if ¬ r.en n = 0 then -4 else if ¬ r.so (tp r n) = 0 then -3 else r.pl (tp r n)
