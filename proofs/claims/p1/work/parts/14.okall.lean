theorem zok_0 : (List.range' 0 32).all zOkM = true := by decide +kernel
theorem zok_32 : (List.range' 32 32).all zOkM = true := by decide +kernel
theorem zok_64 : (List.range' 64 32).all zOkM = true := by decide +kernel
theorem zok_96 : (List.range' 96 32).all zOkM = true := by decide +kernel
theorem zok_128 : (List.range' 128 32).all zOkM = true := by decide +kernel
theorem zok_160 : (List.range' 160 32).all zOkM = true := by decide +kernel
theorem zok_192 : (List.range' 192 32).all zOkM = true := by decide +kernel
theorem zok_224 : (List.range' 224 32).all zOkM = true := by decide +kernel
theorem zok : ∀ j, j < 256 → zOkM j = true := by
  intro j hj
  if h : j < 32 then exact List.all_eq_true.mp zok_0 j (List.mem_range'_1.mpr ⟨by omega, by omega⟩) else
  if h : j < 64 then exact List.all_eq_true.mp zok_32 j (List.mem_range'_1.mpr ⟨by omega, by omega⟩) else
  if h : j < 96 then exact List.all_eq_true.mp zok_64 j (List.mem_range'_1.mpr ⟨by omega, by omega⟩) else
  if h : j < 128 then exact List.all_eq_true.mp zok_96 j (List.mem_range'_1.mpr ⟨by omega, by omega⟩) else
  if h : j < 160 then exact List.all_eq_true.mp zok_128 j (List.mem_range'_1.mpr ⟨by omega, by omega⟩) else
  if h : j < 192 then exact List.all_eq_true.mp zok_160 j (List.mem_range'_1.mpr ⟨by omega, by omega⟩) else
  if h : j < 224 then exact List.all_eq_true.mp zok_192 j (List.mem_range'_1.mpr ⟨by omega, by omega⟩) else
  if h : j < 256 then exact List.all_eq_true.mp zok_224 j (List.mem_range'_1.mpr ⟨by omega, by omega⟩) else
  omega
