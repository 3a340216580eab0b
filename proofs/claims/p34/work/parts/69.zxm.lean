/-! WHAT DECIDES A VERDICT -/
/-- the verdict on the message at spot s, were message j not told -/
def dcV (H : mzH) (s j : Nat) : Int := vrH H (hoX H) ((olF (s + 1) (odX H)).filter (fun x => decide (¬ (x : Int) = (j : Int))))
