theorem zok_0 : (List.range' 0 16).all zOkM = true := by decide +kernel
theorem zok_16 : (List.range' 16 16).all zOkM = true := by decide +kernel
theorem zok_32 : (List.range' 32 16).all zOkM = true := by decide +kernel
theorem zok_48 : (List.range' 48 16).all zOkM = true := by decide +kernel
theorem zok_64 : (List.range' 64 16).all zOkM = true := by decide +kernel
theorem zok_80 : (List.range' 80 16).all zOkM = true := by decide +kernel
theorem zok_96 : (List.range' 96 16).all zOkM = true := by decide +kernel
theorem zok_112 : (List.range' 112 16).all zOkM = true := by decide +kernel
theorem zok_128 : (List.range' 128 16).all zOkM = true := by decide +kernel
theorem zok_144 : (List.range' 144 16).all zOkM = true := by decide +kernel
theorem zok_160 : (List.range' 160 16).all zOkM = true := by decide +kernel
theorem zok_176 : (List.range' 176 16).all zOkM = true := by decide +kernel
theorem zok_192 : (List.range' 192 16).all zOkM = true := by decide +kernel
theorem zok_208 : (List.range' 208 16).all zOkM = true := by decide +kernel
theorem zok_224 : (List.range' 224 16).all zOkM = true := by decide +kernel
theorem zok_240 : (List.range' 240 15).all zOkM = true := by decide +kernel
theorem zok : ∀ j, j < 255 → zOkM j = true := by
  intro j hj
  if h : j < 16 then exact List.all_eq_true.mp zok_0 j (List.mem_range'_1.mpr ⟨by omega, by omega⟩) else
  if h : j < 32 then exact List.all_eq_true.mp zok_16 j (List.mem_range'_1.mpr ⟨by omega, by omega⟩) else
  if h : j < 48 then exact List.all_eq_true.mp zok_32 j (List.mem_range'_1.mpr ⟨by omega, by omega⟩) else
  if h : j < 64 then exact List.all_eq_true.mp zok_48 j (List.mem_range'_1.mpr ⟨by omega, by omega⟩) else
  if h : j < 80 then exact List.all_eq_true.mp zok_64 j (List.mem_range'_1.mpr ⟨by omega, by omega⟩) else
  if h : j < 96 then exact List.all_eq_true.mp zok_80 j (List.mem_range'_1.mpr ⟨by omega, by omega⟩) else
  if h : j < 112 then exact List.all_eq_true.mp zok_96 j (List.mem_range'_1.mpr ⟨by omega, by omega⟩) else
  if h : j < 128 then exact List.all_eq_true.mp zok_112 j (List.mem_range'_1.mpr ⟨by omega, by omega⟩) else
  if h : j < 144 then exact List.all_eq_true.mp zok_128 j (List.mem_range'_1.mpr ⟨by omega, by omega⟩) else
  if h : j < 160 then exact List.all_eq_true.mp zok_144 j (List.mem_range'_1.mpr ⟨by omega, by omega⟩) else
  if h : j < 176 then exact List.all_eq_true.mp zok_160 j (List.mem_range'_1.mpr ⟨by omega, by omega⟩) else
  if h : j < 192 then exact List.all_eq_true.mp zok_176 j (List.mem_range'_1.mpr ⟨by omega, by omega⟩) else
  if h : j < 208 then exact List.all_eq_true.mp zok_192 j (List.mem_range'_1.mpr ⟨by omega, by omega⟩) else
  if h : j < 224 then exact List.all_eq_true.mp zok_208 j (List.mem_range'_1.mpr ⟨by omega, by omega⟩) else
  if h : j < 240 then exact List.all_eq_true.mp zok_224 j (List.mem_range'_1.mpr ⟨by omega, by omega⟩) else
  if h : j < 255 then exact List.all_eq_true.mp zok_240 j (List.mem_range'_1.mpr ⟨by omega, by omega⟩) else
  omega
