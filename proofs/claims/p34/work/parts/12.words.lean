/-! WHAT THE TABLES' WORDS SAY of the mini machine's tables, by program (wip/gen.py) -/
def zgd (w : Cond) : Bool := (w.onTables && w.keeps) || (match w with | .arrayClass _ => true | _ => false)
def znd (w : Cond) : Bool := match w with | .fieldLinkNest _ _ _ _ _ _ => true | .methodLinkNest _ _ _ _ => true | _ => false
def zBG : List Cond := lw_tbl.filter zgd
def zNS : List Cond := lw_tbl.filter znd
theorem zT {w : Cond} (i : Nat) (h : tables_1[i]? = some w) (g : zgd w = true) : w ∈ zBG := List.mem_filter.mpr ⟨List.mem_append_right _ (List.mem_of_getElem? h), g⟩
theorem zS {w : Cond} (i : Nat) (h : (k2_sels lw_privs)[i]? = some w) (g : zgd w = true) : w ∈ zBG := List.mem_filter.mpr ⟨List.mem_append_left _ (List.mem_of_getElem? h), g⟩
theorem zE {w : Cond} (i : Nat) (h : tables_1[i]? = some w) (g : znd w = true) : w ∈ zNS := List.mem_filter.mpr ⟨List.mem_append_right _ (List.mem_of_getElem? h), g⟩
theorem zT_1 {w : Cond} (i : Nat) (h : tables_1_1[i]? = some w) (g : zgd w = true) : w ∈ zBG := List.mem_filter.mpr ⟨List.mem_append_right _ (ztm_1 (List.mem_of_getElem? h)), g⟩
theorem zE_1 {w : Cond} (i : Nat) (h : tables_1_1[i]? = some w) (g : znd w = true) : w ∈ zNS := List.mem_filter.mpr ⟨List.mem_append_right _ (ztm_1 (List.mem_of_getElem? h)), g⟩
theorem zT_2 {w : Cond} (i : Nat) (h : tables_1_2[i]? = some w) (g : zgd w = true) : w ∈ zBG := List.mem_filter.mpr ⟨List.mem_append_right _ (ztm_2 (List.mem_of_getElem? h)), g⟩
theorem zE_2 {w : Cond} (i : Nat) (h : tables_1_2[i]? = some w) (g : znd w = true) : w ∈ zNS := List.mem_filter.mpr ⟨List.mem_append_right _ (ztm_2 (List.mem_of_getElem? h)), g⟩
theorem zT_3 {w : Cond} (i : Nat) (h : tables_1_3[i]? = some w) (g : zgd w = true) : w ∈ zBG := List.mem_filter.mpr ⟨List.mem_append_right _ (ztm_3 (List.mem_of_getElem? h)), g⟩
theorem zE_3 {w : Cond} (i : Nat) (h : tables_1_3[i]? = some w) (g : znd w = true) : w ∈ zNS := List.mem_filter.mpr ⟨List.mem_append_right _ (ztm_3 (List.mem_of_getElem? h)), g⟩
theorem zT_4 {w : Cond} (i : Nat) (h : tables_1_4[i]? = some w) (g : zgd w = true) : w ∈ zBG := List.mem_filter.mpr ⟨List.mem_append_right _ (ztm_4 (List.mem_of_getElem? h)), g⟩
theorem zE_4 {w : Cond} (i : Nat) (h : tables_1_4[i]? = some w) (g : znd w = true) : w ∈ zNS := List.mem_filter.mpr ⟨List.mem_append_right _ (ztm_4 (List.mem_of_getElem? h)), g⟩
theorem zT_5 {w : Cond} (i : Nat) (h : tables_1_5[i]? = some w) (g : zgd w = true) : w ∈ zBG := List.mem_filter.mpr ⟨List.mem_append_right _ (ztm_5 (List.mem_of_getElem? h)), g⟩
theorem zE_5 {w : Cond} (i : Nat) (h : tables_1_5[i]? = some w) (g : znd w = true) : w ∈ zNS := List.mem_filter.mpr ⟨List.mem_append_right _ (ztm_5 (List.mem_of_getElem? h)), g⟩
theorem zT_6 {w : Cond} (i : Nat) (h : tables_1_6[i]? = some w) (g : zgd w = true) : w ∈ zBG := List.mem_filter.mpr ⟨List.mem_append_right _ (ztm_6 (List.mem_of_getElem? h)), g⟩
theorem zE_6 {w : Cond} (i : Nat) (h : tables_1_6[i]? = some w) (g : znd w = true) : w ∈ zNS := List.mem_filter.mpr ⟨List.mem_append_right _ (ztm_6 (List.mem_of_getElem? h)), g⟩
theorem zT_7 {w : Cond} (i : Nat) (h : tables_1_7[i]? = some w) (g : zgd w = true) : w ∈ zBG := List.mem_filter.mpr ⟨List.mem_append_right _ (ztm_7 (List.mem_of_getElem? h)), g⟩
theorem zE_7 {w : Cond} (i : Nat) (h : tables_1_7[i]? = some w) (g : znd w = true) : w ∈ zNS := List.mem_filter.mpr ⟨List.mem_append_right _ (ztm_7 (List.mem_of_getElem? h)), g⟩
theorem zT_8 {w : Cond} (i : Nat) (h : tables_1_8[i]? = some w) (g : zgd w = true) : w ∈ zBG := List.mem_filter.mpr ⟨List.mem_append_right _ (ztm_8 (List.mem_of_getElem? h)), g⟩
theorem zE_8 {w : Cond} (i : Nat) (h : tables_1_8[i]? = some w) (g : znd w = true) : w ∈ zNS := List.mem_filter.mpr ⟨List.mem_append_right _ (ztm_8 (List.mem_of_getElem? h)), g⟩
def zFp (r : Nat × Nat × Nat × Nat) : Prop := ∃ (C : String) (T : u_T) (N : Nat), vwCl[r.2.2.1]? = some (C, T, N) ∧ r.2.2.2 < N ∧ (T r.2.2.2).1 = C ∧ Cond.fieldLink (zcn r.1) r.2.1 C (T r.2.2.2).2.1 (T r.2.2.2).2.2.1 ∈ zBG
def zFn (r : Nat × Nat × Nat × Nat) : Prop := ∃ (C : String) (T : u_T) (N : Nat), vwCl[r.2.2.1]? = some (C, T, N) ∧ r.2.2.2 < N ∧ (T r.2.2.2).1 = C ∧ ∃ h : String, Cond.fieldLinkNest (zcn r.1) r.2.1 C (T r.2.2.2).2.1 (T r.2.2.2).2.2.1 h ∈ zNS
def zMp (r : Nat × Nat × Nat × Nat) : Prop := Cond.methodLink (zcn r.1) r.2.1 (zM r.2.2.1).1 ∈ zBG
def zMn (r : Nat × Nat × Nat × Nat) : Prop := ∃ h : String, Cond.methodLinkNest (zcn r.1) r.2.1 (zM r.2.2.1).1 h ∈ zNS
theorem zLF_ok_0 : ∀ r ∈ ([(9, 10, 9, 0), (9, 19, 9, 1), (9, 23, 9, 2), (9, 31, 9, 3), (9, 40, 9, 4), (9, 49, 9, 5), (9, 56, 9, 6), (0, 12, 0, 0), (0, 18, 0, 1), (0, 21, 0, 2), (0, 30, 0, 3), (0, 35, 0, 4), (0, 36, 0, 5), (0, 40, 0, 6), (0, 43, 0, 8), (0, 67, 0, 7), (0, 74, 0, 11), (0, 94, 0, 9), (0, 97, 0, 10), (1, 9, 1, 0)] : List _), zFp r := List.forall_mem_cons.mpr ⟨⟨_, _, _, rfl, by decide, rfl, zT_2 115 (by decide +kernel) rfl⟩, List.forall_mem_cons.mpr ⟨⟨_, _, _, rfl, by decide, rfl, zT_2 116 (by decide +kernel) rfl⟩, List.forall_mem_cons.mpr ⟨⟨_, _, _, rfl, by decide, rfl, zT_2 117 (by decide +kernel) rfl⟩, List.forall_mem_cons.mpr ⟨⟨_, _, _, rfl, by decide, rfl, zT_2 118 (by decide +kernel) rfl⟩, List.forall_mem_cons.mpr ⟨⟨_, _, _, rfl, by decide, rfl, zT_2 119 (by decide +kernel) rfl⟩, List.forall_mem_cons.mpr ⟨⟨_, _, _, rfl, by decide, rfl, zT_2 120 (by decide +kernel) rfl⟩, List.forall_mem_cons.mpr ⟨⟨_, _, _, rfl, by decide, rfl, zT_2 121 (by decide +kernel) rfl⟩, List.forall_mem_cons.mpr ⟨⟨_, _, _, rfl, by decide, rfl, zT_2 73 (by decide +kernel) rfl⟩, List.forall_mem_cons.mpr ⟨⟨_, _, _, rfl, by decide, rfl, zT_2 74 (by decide +kernel) rfl⟩, List.forall_mem_cons.mpr ⟨⟨_, _, _, rfl, by decide, rfl, zT_2 75 (by decide +kernel) rfl⟩, List.forall_mem_cons.mpr ⟨⟨_, _, _, rfl, by decide, rfl, zT_2 76 (by decide +kernel) rfl⟩, List.forall_mem_cons.mpr ⟨⟨_, _, _, rfl, by decide, rfl, zT_2 77 (by decide +kernel) rfl⟩, List.forall_mem_cons.mpr ⟨⟨_, _, _, rfl, by decide, rfl, zT_2 78 (by decide +kernel) rfl⟩, List.forall_mem_cons.mpr ⟨⟨_, _, _, rfl, by decide, rfl, zT_2 79 (by decide +kernel) rfl⟩, List.forall_mem_cons.mpr ⟨⟨_, _, _, rfl, by decide, rfl, zT_2 82 (by decide +kernel) rfl⟩, List.forall_mem_cons.mpr ⟨⟨_, _, _, rfl, by decide, rfl, zT_2 80 (by decide +kernel) rfl⟩, List.forall_mem_cons.mpr ⟨⟨_, _, _, rfl, by decide, rfl, zT_2 88 (by decide +kernel) rfl⟩, List.forall_mem_cons.mpr ⟨⟨_, _, _, rfl, by decide, rfl, zT_2 84 (by decide +kernel) rfl⟩, List.forall_mem_cons.mpr ⟨⟨_, _, _, rfl, by decide, rfl, zT_2 86 (by decide +kernel) rfl⟩, List.forall_mem_cons.mpr ⟨⟨_, _, _, rfl, by decide, rfl, zT_1 56 (by decide +kernel) rfl⟩, fun _ h => absurd h List.not_mem_nil⟩⟩⟩⟩⟩⟩⟩⟩⟩⟩⟩⟩⟩⟩⟩⟩⟩⟩⟩⟩
theorem zLF_ok_1 : ∀ r ∈ ([(1, 15, 1, 1), (1, 18, 1, 2), (1, 21, 1, 3), (1, 24, 1, 4), (1, 27, 1, 5), (1, 30, 1, 6), (1, 33, 1, 10), (1, 37, 1, 11), (1, 40, 1, 7), (1, 43, 1, 8), (1, 46, 1, 9), (1, 49, 1, 12), (2, 9, 2, 0), (2, 15, 2, 1), (2, 24, 2, 2), (3, 12, 3, 0), (3, 21, 3, 1), (3, 25, 3, 2), (3, 35, 3, 3), (3, 87, 3, 4)] : List _), zFp r := List.forall_mem_cons.mpr ⟨⟨_, _, _, rfl, by decide, rfl, zT_1 57 (by decide +kernel) rfl⟩, List.forall_mem_cons.mpr ⟨⟨_, _, _, rfl, by decide, rfl, zT_1 58 (by decide +kernel) rfl⟩, List.forall_mem_cons.mpr ⟨⟨_, _, _, rfl, by decide, rfl, zT_1 62 (by decide +kernel) rfl⟩, List.forall_mem_cons.mpr ⟨⟨_, _, _, rfl, by decide, rfl, zT_1 67 (by decide +kernel) rfl⟩, List.forall_mem_cons.mpr ⟨⟨_, _, _, rfl, by decide, rfl, zT_1 71 (by decide +kernel) rfl⟩, List.forall_mem_cons.mpr ⟨⟨_, _, _, rfl, by decide, rfl, zT_1 74 (by decide +kernel) rfl⟩, List.forall_mem_cons.mpr ⟨⟨_, _, _, rfl, by decide, rfl, zT_1 86 (by decide +kernel) rfl⟩, List.forall_mem_cons.mpr ⟨⟨_, _, _, rfl, by decide, rfl, zT_1 90 (by decide +kernel) rfl⟩, List.forall_mem_cons.mpr ⟨⟨_, _, _, rfl, by decide, rfl, zT_1 76 (by decide +kernel) rfl⟩, List.forall_mem_cons.mpr ⟨⟨_, _, _, rfl, by decide, rfl, zT_1 79 (by decide +kernel) rfl⟩, List.forall_mem_cons.mpr ⟨⟨_, _, _, rfl, by decide, rfl, zT_1 83 (by decide +kernel) rfl⟩, List.forall_mem_cons.mpr ⟨⟨_, _, _, rfl, by decide, rfl, zT_1 94 (by decide +kernel) rfl⟩, List.forall_mem_cons.mpr ⟨⟨_, _, _, rfl, by decide, rfl, zT_1 205 (by decide +kernel) rfl⟩, List.forall_mem_cons.mpr ⟨⟨_, _, _, rfl, by decide, rfl, zT_1 207 (by decide +kernel) rfl⟩, List.forall_mem_cons.mpr ⟨⟨_, _, _, rfl, by decide, rfl, zT_1 211 (by decide +kernel) rfl⟩, List.forall_mem_cons.mpr ⟨⟨_, _, _, rfl, by decide, rfl, zT_2 40 (by decide +kernel) rfl⟩, List.forall_mem_cons.mpr ⟨⟨_, _, _, rfl, by decide, rfl, zT_2 41 (by decide +kernel) rfl⟩, List.forall_mem_cons.mpr ⟨⟨_, _, _, rfl, by decide, rfl, zT_2 42 (by decide +kernel) rfl⟩, List.forall_mem_cons.mpr ⟨⟨_, _, _, rfl, by decide, rfl, zT_2 43 (by decide +kernel) rfl⟩, List.forall_mem_cons.mpr ⟨⟨_, _, _, rfl, by decide, rfl, zT_2 44 (by decide +kernel) rfl⟩, fun _ h => absurd h List.not_mem_nil⟩⟩⟩⟩⟩⟩⟩⟩⟩⟩⟩⟩⟩⟩⟩⟩⟩⟩⟩⟩
theorem zLF_ok_2 : ∀ r ∈ ([(3, 90, 3, 5), (3, 93, 3, 6), (4, 9, 4, 6), (4, 20, 4, 0), (4, 24, 4, 1), (4, 32, 4, 5), (4, 35, 4, 7), (4, 41, 4, 3), (4, 53, 4, 2), (4, 63, 4, 4), (5, 12, 5, 0), (5, 21, 5, 1), (5, 25, 5, 2), (5, 28, 5, 3), (5, 32, 5, 4), (6, 9, 6, 0), (6, 15, 6, 1), (7, 9, 7, 0), (7, 15, 7, 1), (7, 18, 7, 2)] : List _), zFp r := List.forall_mem_cons.mpr ⟨⟨_, _, _, rfl, by decide, rfl, zT_2 46 (by decide +kernel) rfl⟩, List.forall_mem_cons.mpr ⟨⟨_, _, _, rfl, by decide, rfl, zT_2 48 (by decide +kernel) rfl⟩, List.forall_mem_cons.mpr ⟨⟨_, _, _, rfl, by decide, rfl, zT_1 172 (by decide +kernel) rfl⟩, List.forall_mem_cons.mpr ⟨⟨_, _, _, rfl, by decide, rfl, zT_1 165 (by decide +kernel) rfl⟩, List.forall_mem_cons.mpr ⟨⟨_, _, _, rfl, by decide, rfl, zT_1 166 (by decide +kernel) rfl⟩, List.forall_mem_cons.mpr ⟨⟨_, _, _, rfl, by decide, rfl, zT_1 170 (by decide +kernel) rfl⟩, List.forall_mem_cons.mpr ⟨⟨_, _, _, rfl, by decide, rfl, zT_1 174 (by decide +kernel) rfl⟩, List.forall_mem_cons.mpr ⟨⟨_, _, _, rfl, by decide, rfl, zT_1 168 (by decide +kernel) rfl⟩, List.forall_mem_cons.mpr ⟨⟨_, _, _, rfl, by decide, rfl, zT_1 167 (by decide +kernel) rfl⟩, List.forall_mem_cons.mpr ⟨⟨_, _, _, rfl, by decide, rfl, zT_1 169 (by decide +kernel) rfl⟩, List.forall_mem_cons.mpr ⟨⟨_, _, _, rfl, by decide, rfl, zT_2 7 (by decide +kernel) rfl⟩, List.forall_mem_cons.mpr ⟨⟨_, _, _, rfl, by decide, rfl, zT_2 11 (by decide +kernel) rfl⟩, List.forall_mem_cons.mpr ⟨⟨_, _, _, rfl, by decide, rfl, zT_2 12 (by decide +kernel) rfl⟩, List.forall_mem_cons.mpr ⟨⟨_, _, _, rfl, by decide, rfl, zT_2 13 (by decide +kernel) rfl⟩, List.forall_mem_cons.mpr ⟨⟨_, _, _, rfl, by decide, rfl, zT_2 18 (by decide +kernel) rfl⟩, List.forall_mem_cons.mpr ⟨⟨_, _, _, rfl, by decide, rfl, zT_1 39 (by decide +kernel) rfl⟩, List.forall_mem_cons.mpr ⟨⟨_, _, _, rfl, by decide, rfl, zT_1 41 (by decide +kernel) rfl⟩, List.forall_mem_cons.mpr ⟨⟨_, _, _, rfl, by decide, rfl, zT_1 136 (by decide +kernel) rfl⟩, List.forall_mem_cons.mpr ⟨⟨_, _, _, rfl, by decide, rfl, zT_1 138 (by decide +kernel) rfl⟩, List.forall_mem_cons.mpr ⟨⟨_, _, _, rfl, by decide, rfl, zT_1 140 (by decide +kernel) rfl⟩, fun _ h => absurd h List.not_mem_nil⟩⟩⟩⟩⟩⟩⟩⟩⟩⟩⟩⟩⟩⟩⟩⟩⟩⟩⟩⟩
theorem zLF_ok_3 : ∀ r ∈ ([(7, 21, 7, 3), (7, 40, 7, 5), (7, 43, 7, 6), (7, 46, 7, 4), (7, 50, 7, 7), (8, 9, 8, 0), (8, 15, 8, 1), (8, 18, 8, 2), (8, 21, 8, 3), (8, 24, 8, 4), (8, 27, 8, 5), (10, 7, 10, 1), (10, 13, 10, 3), (10, 16, 10, 4), (10, 19, 10, 5), (10, 22, 10, 6), (10, 25, 10, 16), (10, 29, 10, 20), (10, 32, 10, 21), (10, 36, 10, 22)] : List _), zFp r := List.forall_mem_cons.mpr ⟨⟨_, _, _, rfl, by decide, rfl, zT_1 142 (by decide +kernel) rfl⟩, List.forall_mem_cons.mpr ⟨⟨_, _, _, rfl, by decide, rfl, zT_1 145 (by decide +kernel) rfl⟩, List.forall_mem_cons.mpr ⟨⟨_, _, _, rfl, by decide, rfl, zT_1 146 (by decide +kernel) rfl⟩, List.forall_mem_cons.mpr ⟨⟨_, _, _, rfl, by decide, rfl, zT_1 143 (by decide +kernel) rfl⟩, List.forall_mem_cons.mpr ⟨⟨_, _, _, rfl, by decide, rfl, zT_1 147 (by decide +kernel) rfl⟩, List.forall_mem_cons.mpr ⟨⟨_, _, _, rfl, by decide, rfl, zT_1 228 (by decide +kernel) rfl⟩, List.forall_mem_cons.mpr ⟨⟨_, _, _, rfl, by decide, rfl, zT_1 229 (by decide +kernel) rfl⟩, List.forall_mem_cons.mpr ⟨⟨_, _, _, rfl, by decide, rfl, zT_1 230 (by decide +kernel) rfl⟩, List.forall_mem_cons.mpr ⟨⟨_, _, _, rfl, by decide, rfl, zT_1 231 (by decide +kernel) rfl⟩, List.forall_mem_cons.mpr ⟨⟨_, _, _, rfl, by decide, rfl, zT_1 232 (by decide +kernel) rfl⟩, List.forall_mem_cons.mpr ⟨⟨_, _, _, rfl, by decide, rfl, zT_1 233 (by decide +kernel) rfl⟩, List.forall_mem_cons.mpr ⟨⟨_, _, _, rfl, by decide, rfl, zT_5 200 (by decide +kernel) rfl⟩, List.forall_mem_cons.mpr ⟨⟨_, _, _, rfl, by decide, rfl, zT_5 202 (by decide +kernel) rfl⟩, List.forall_mem_cons.mpr ⟨⟨_, _, _, rfl, by decide, rfl, zT_5 203 (by decide +kernel) rfl⟩, List.forall_mem_cons.mpr ⟨⟨_, _, _, rfl, by decide, rfl, zT_5 204 (by decide +kernel) rfl⟩, List.forall_mem_cons.mpr ⟨⟨_, _, _, rfl, by decide, rfl, zT_5 205 (by decide +kernel) rfl⟩, List.forall_mem_cons.mpr ⟨⟨_, _, _, rfl, by decide, rfl, zT_5 215 (by decide +kernel) rfl⟩, List.forall_mem_cons.mpr ⟨⟨_, _, _, rfl, by decide, rfl, zT_5 219 (by decide +kernel) rfl⟩, List.forall_mem_cons.mpr ⟨⟨_, _, _, rfl, by decide, rfl, zT_5 220 (by decide +kernel) rfl⟩, List.forall_mem_cons.mpr ⟨⟨_, _, _, rfl, by decide, rfl, zT_5 221 (by decide +kernel) rfl⟩, fun _ h => absurd h List.not_mem_nil⟩⟩⟩⟩⟩⟩⟩⟩⟩⟩⟩⟩⟩⟩⟩⟩⟩⟩⟩⟩
theorem zLF_ok_4 : ∀ r ∈ ([(10, 39, 10, 23), (10, 42, 10, 24), (10, 45, 10, 25), (10, 48, 10, 26), (10, 51, 10, 27), (10, 54, 10, 28), (10, 57, 10, 29), (10, 60, 10, 30), (10, 63, 10, 31), (10, 66, 10, 32), (10, 69, 10, 33), (10, 72, 10, 35), (10, 75, 10, 36), (10, 78, 10, 37), (10, 81, 10, 38), (10, 84, 10, 40), (10, 87, 10, 44), (10, 96, 10, 0), (10, 99, 10, 2), (10, 102, 10, 8)] : List _), zFp r := List.forall_mem_cons.mpr ⟨⟨_, _, _, rfl, by decide, rfl, zT_5 222 (by decide +kernel) rfl⟩, List.forall_mem_cons.mpr ⟨⟨_, _, _, rfl, by decide, rfl, zT_5 223 (by decide +kernel) rfl⟩, List.forall_mem_cons.mpr ⟨⟨_, _, _, rfl, by decide, rfl, zT_5 224 (by decide +kernel) rfl⟩, List.forall_mem_cons.mpr ⟨⟨_, _, _, rfl, by decide, rfl, zT_5 225 (by decide +kernel) rfl⟩, List.forall_mem_cons.mpr ⟨⟨_, _, _, rfl, by decide, rfl, zT_5 226 (by decide +kernel) rfl⟩, List.forall_mem_cons.mpr ⟨⟨_, _, _, rfl, by decide, rfl, zT_5 227 (by decide +kernel) rfl⟩, List.forall_mem_cons.mpr ⟨⟨_, _, _, rfl, by decide, rfl, zT_5 228 (by decide +kernel) rfl⟩, List.forall_mem_cons.mpr ⟨⟨_, _, _, rfl, by decide, rfl, zT_5 229 (by decide +kernel) rfl⟩, List.forall_mem_cons.mpr ⟨⟨_, _, _, rfl, by decide, rfl, zT_5 230 (by decide +kernel) rfl⟩, List.forall_mem_cons.mpr ⟨⟨_, _, _, rfl, by decide, rfl, zT_5 231 (by decide +kernel) rfl⟩, List.forall_mem_cons.mpr ⟨⟨_, _, _, rfl, by decide, rfl, zT_5 232 (by decide +kernel) rfl⟩, List.forall_mem_cons.mpr ⟨⟨_, _, _, rfl, by decide, rfl, zT_5 234 (by decide +kernel) rfl⟩, List.forall_mem_cons.mpr ⟨⟨_, _, _, rfl, by decide, rfl, zT_5 235 (by decide +kernel) rfl⟩, List.forall_mem_cons.mpr ⟨⟨_, _, _, rfl, by decide, rfl, zT_5 236 (by decide +kernel) rfl⟩, List.forall_mem_cons.mpr ⟨⟨_, _, _, rfl, by decide, rfl, zT_5 237 (by decide +kernel) rfl⟩, List.forall_mem_cons.mpr ⟨⟨_, _, _, rfl, by decide, rfl, zT_5 239 (by decide +kernel) rfl⟩, List.forall_mem_cons.mpr ⟨⟨_, _, _, rfl, by decide, rfl, zT_6 3 (by decide +kernel) rfl⟩, List.forall_mem_cons.mpr ⟨⟨_, _, _, rfl, by decide, rfl, zT_5 199 (by decide +kernel) rfl⟩, List.forall_mem_cons.mpr ⟨⟨_, _, _, rfl, by decide, rfl, zT_5 201 (by decide +kernel) rfl⟩, List.forall_mem_cons.mpr ⟨⟨_, _, _, rfl, by decide, rfl, zT_5 207 (by decide +kernel) rfl⟩, fun _ h => absurd h List.not_mem_nil⟩⟩⟩⟩⟩⟩⟩⟩⟩⟩⟩⟩⟩⟩⟩⟩⟩⟩⟩⟩
theorem zLF_ok_5 : ∀ r ∈ ([(10, 105, 10, 7), (10, 112, 10, 9), (10, 115, 10, 10), (10, 122, 10, 12), (10, 128, 10, 11), (10, 145, 10, 13), (10, 148, 10, 14), (10, 171, 10, 17), (10, 190, 10, 19), (10, 198, 10, 15), (10, 201, 10, 18), (10, 220, 10, 34), (10, 307, 10, 39), (10, 326, 10, 41), (10, 329, 10, 43), (10, 332, 10, 42)] : List _), zFp r := List.forall_mem_cons.mpr ⟨⟨_, _, _, rfl, by decide, rfl, zT_5 206 (by decide +kernel) rfl⟩, List.forall_mem_cons.mpr ⟨⟨_, _, _, rfl, by decide, rfl, zT_5 208 (by decide +kernel) rfl⟩, List.forall_mem_cons.mpr ⟨⟨_, _, _, rfl, by decide, rfl, zT_5 209 (by decide +kernel) rfl⟩, List.forall_mem_cons.mpr ⟨⟨_, _, _, rfl, by decide, rfl, zT_5 211 (by decide +kernel) rfl⟩, List.forall_mem_cons.mpr ⟨⟨_, _, _, rfl, by decide, rfl, zT_5 210 (by decide +kernel) rfl⟩, List.forall_mem_cons.mpr ⟨⟨_, _, _, rfl, by decide, rfl, zT_5 212 (by decide +kernel) rfl⟩, List.forall_mem_cons.mpr ⟨⟨_, _, _, rfl, by decide, rfl, zT_5 213 (by decide +kernel) rfl⟩, List.forall_mem_cons.mpr ⟨⟨_, _, _, rfl, by decide, rfl, zT_5 216 (by decide +kernel) rfl⟩, List.forall_mem_cons.mpr ⟨⟨_, _, _, rfl, by decide, rfl, zT_5 218 (by decide +kernel) rfl⟩, List.forall_mem_cons.mpr ⟨⟨_, _, _, rfl, by decide, rfl, zT_5 214 (by decide +kernel) rfl⟩, List.forall_mem_cons.mpr ⟨⟨_, _, _, rfl, by decide, rfl, zT_5 217 (by decide +kernel) rfl⟩, List.forall_mem_cons.mpr ⟨⟨_, _, _, rfl, by decide, rfl, zT_5 233 (by decide +kernel) rfl⟩, List.forall_mem_cons.mpr ⟨⟨_, _, _, rfl, by decide, rfl, zT_5 238 (by decide +kernel) rfl⟩, List.forall_mem_cons.mpr ⟨⟨_, _, _, rfl, by decide, rfl, zT_6 0 (by decide +kernel) rfl⟩, List.forall_mem_cons.mpr ⟨⟨_, _, _, rfl, by decide, rfl, zT_6 2 (by decide +kernel) rfl⟩, List.forall_mem_cons.mpr ⟨⟨_, _, _, rfl, by decide, rfl, zT_6 1 (by decide +kernel) rfl⟩, fun _ h => absurd h List.not_mem_nil⟩⟩⟩⟩⟩⟩⟩⟩⟩⟩⟩⟩⟩⟩⟩⟩
theorem zLF_ok : ∀ r ∈ zLF, zFp r := by
  intro r h
  have e : zLF = [(9, 10, 9, 0), (9, 19, 9, 1), (9, 23, 9, 2), (9, 31, 9, 3), (9, 40, 9, 4), (9, 49, 9, 5), (9, 56, 9, 6), (0, 12, 0, 0), (0, 18, 0, 1), (0, 21, 0, 2), (0, 30, 0, 3), (0, 35, 0, 4), (0, 36, 0, 5), (0, 40, 0, 6), (0, 43, 0, 8), (0, 67, 0, 7), (0, 74, 0, 11), (0, 94, 0, 9), (0, 97, 0, 10), (1, 9, 1, 0)] ++ ([(1, 15, 1, 1), (1, 18, 1, 2), (1, 21, 1, 3), (1, 24, 1, 4), (1, 27, 1, 5), (1, 30, 1, 6), (1, 33, 1, 10), (1, 37, 1, 11), (1, 40, 1, 7), (1, 43, 1, 8), (1, 46, 1, 9), (1, 49, 1, 12), (2, 9, 2, 0), (2, 15, 2, 1), (2, 24, 2, 2), (3, 12, 3, 0), (3, 21, 3, 1), (3, 25, 3, 2), (3, 35, 3, 3), (3, 87, 3, 4)] ++ ([(3, 90, 3, 5), (3, 93, 3, 6), (4, 9, 4, 6), (4, 20, 4, 0), (4, 24, 4, 1), (4, 32, 4, 5), (4, 35, 4, 7), (4, 41, 4, 3), (4, 53, 4, 2), (4, 63, 4, 4), (5, 12, 5, 0), (5, 21, 5, 1), (5, 25, 5, 2), (5, 28, 5, 3), (5, 32, 5, 4), (6, 9, 6, 0), (6, 15, 6, 1), (7, 9, 7, 0), (7, 15, 7, 1), (7, 18, 7, 2)] ++ ([(7, 21, 7, 3), (7, 40, 7, 5), (7, 43, 7, 6), (7, 46, 7, 4), (7, 50, 7, 7), (8, 9, 8, 0), (8, 15, 8, 1), (8, 18, 8, 2), (8, 21, 8, 3), (8, 24, 8, 4), (8, 27, 8, 5), (10, 7, 10, 1), (10, 13, 10, 3), (10, 16, 10, 4), (10, 19, 10, 5), (10, 22, 10, 6), (10, 25, 10, 16), (10, 29, 10, 20), (10, 32, 10, 21), (10, 36, 10, 22)] ++ ([(10, 39, 10, 23), (10, 42, 10, 24), (10, 45, 10, 25), (10, 48, 10, 26), (10, 51, 10, 27), (10, 54, 10, 28), (10, 57, 10, 29), (10, 60, 10, 30), (10, 63, 10, 31), (10, 66, 10, 32), (10, 69, 10, 33), (10, 72, 10, 35), (10, 75, 10, 36), (10, 78, 10, 37), (10, 81, 10, 38), (10, 84, 10, 40), (10, 87, 10, 44), (10, 96, 10, 0), (10, 99, 10, 2), (10, 102, 10, 8)] ++ ([(10, 105, 10, 7), (10, 112, 10, 9), (10, 115, 10, 10), (10, 122, 10, 12), (10, 128, 10, 11), (10, 145, 10, 13), (10, 148, 10, 14), (10, 171, 10, 17), (10, 190, 10, 19), (10, 198, 10, 15), (10, 201, 10, 18), (10, 220, 10, 34), (10, 307, 10, 39), (10, 326, 10, 41), (10, 329, 10, 43), (10, 332, 10, 42)]))))) := rfl
  rw [e] at h
  simp only [List.mem_append] at h
  rcases h with h | h | h | h | h | h
  · exact zLF_ok_0 r h
  · exact zLF_ok_1 r h
  · exact zLF_ok_2 r h
  · exact zLF_ok_3 r h
  · exact zLF_ok_4 r h
  · exact zLF_ok_5 r h
theorem zLFn_ok_0 : ∀ r ∈ ([(9, 68, 6, 1), (9, 95, 4, 7), (9, 98, 4, 5), (9, 101, 4, 6), (9, 121, 1, 2), (9, 125, 1, 3), (9, 128, 1, 4), (9, 131, 1, 5), (9, 134, 5, 3), (9, 137, 5, 0), (9, 191, 1, 9), (9, 210, 0, 7), (9, 213, 0, 8), (9, 219, 0, 11), (9, 222, 0, 9), (9, 225, 0, 10), (9, 264, 3, 6), (9, 267, 3, 4), (9, 270, 3, 5), (9, 297, 1, 7)] : List _), zFn r := List.forall_mem_cons.mpr ⟨⟨_, _, _, rfl, by decide, rfl, "PackTracer", zE_1 43 (by decide +kernel) rfl⟩, List.forall_mem_cons.mpr ⟨⟨_, _, _, rfl, by decide, rfl, "PackTracer", zE_1 175 (by decide +kernel) rfl⟩, List.forall_mem_cons.mpr ⟨⟨_, _, _, rfl, by decide, rfl, "PackTracer", zE_1 171 (by decide +kernel) rfl⟩, List.forall_mem_cons.mpr ⟨⟨_, _, _, rfl, by decide, rfl, "PackTracer", zE_1 173 (by decide +kernel) rfl⟩, List.forall_mem_cons.mpr ⟨⟨_, _, _, rfl, by decide, rfl, "PackTracer", zE_1 61 (by decide +kernel) rfl⟩, List.forall_mem_cons.mpr ⟨⟨_, _, _, rfl, by decide, rfl, "PackTracer", zE_1 64 (by decide +kernel) rfl⟩, List.forall_mem_cons.mpr ⟨⟨_, _, _, rfl, by decide, rfl, "PackTracer", zE_1 68 (by decide +kernel) rfl⟩, List.forall_mem_cons.mpr ⟨⟨_, _, _, rfl, by decide, rfl, "PackTracer", zE_1 72 (by decide +kernel) rfl⟩, List.forall_mem_cons.mpr ⟨⟨_, _, _, rfl, by decide, rfl, "PackTracer", zE_2 15 (by decide +kernel) rfl⟩, List.forall_mem_cons.mpr ⟨⟨_, _, _, rfl, by decide, rfl, "PackTracer", zE_2 10 (by decide +kernel) rfl⟩, List.forall_mem_cons.mpr ⟨⟨_, _, _, rfl, by decide, rfl, "PackTracer", zE_1 85 (by decide +kernel) rfl⟩, List.forall_mem_cons.mpr ⟨⟨_, _, _, rfl, by decide, rfl, "PackTracer", zE_2 81 (by decide +kernel) rfl⟩, List.forall_mem_cons.mpr ⟨⟨_, _, _, rfl, by decide, rfl, "PackTracer", zE_2 83 (by decide +kernel) rfl⟩, List.forall_mem_cons.mpr ⟨⟨_, _, _, rfl, by decide, rfl, "PackTracer", zE_2 89 (by decide +kernel) rfl⟩, List.forall_mem_cons.mpr ⟨⟨_, _, _, rfl, by decide, rfl, "PackTracer", zE_2 85 (by decide +kernel) rfl⟩, List.forall_mem_cons.mpr ⟨⟨_, _, _, rfl, by decide, rfl, "PackTracer", zE_2 87 (by decide +kernel) rfl⟩, List.forall_mem_cons.mpr ⟨⟨_, _, _, rfl, by decide, rfl, "PackTracer", zE_2 49 (by decide +kernel) rfl⟩, List.forall_mem_cons.mpr ⟨⟨_, _, _, rfl, by decide, rfl, "PackTracer", zE_2 45 (by decide +kernel) rfl⟩, List.forall_mem_cons.mpr ⟨⟨_, _, _, rfl, by decide, rfl, "PackTracer", zE_2 47 (by decide +kernel) rfl⟩, List.forall_mem_cons.mpr ⟨⟨_, _, _, rfl, by decide, rfl, "PackTracer", zE_1 78 (by decide +kernel) rfl⟩, fun _ h => absurd h List.not_mem_nil⟩⟩⟩⟩⟩⟩⟩⟩⟩⟩⟩⟩⟩⟩⟩⟩⟩⟩⟩⟩
theorem zLFn_ok_1 : ∀ r ∈ ([(9, 300, 1, 8), (9, 307, 1, 10), (9, 310, 1, 11), (0, 24, 5, 4), (0, 31, 5, 0), (0, 50, 2, 2), (0, 59, 2, 1), (2, 18, 1, 9), (2, 25, 1, 2), (3, 29, 5, 4), (3, 36, 5, 0), (3, 39, 2, 2), (3, 54, 2, 1), (3, 58, 1, 2), (3, 70, 5, 3), (3, 77, 2, 0), (3, 99, 1, 3), (4, 50, 7, 4), (4, 56, 7, 0), (4, 60, 7, 2)] : List _), zFn r := List.forall_mem_cons.mpr ⟨⟨_, _, _, rfl, by decide, rfl, "PackTracer", zE_1 81 (by decide +kernel) rfl⟩, List.forall_mem_cons.mpr ⟨⟨_, _, _, rfl, by decide, rfl, "PackTracer", zE_1 89 (by decide +kernel) rfl⟩, List.forall_mem_cons.mpr ⟨⟨_, _, _, rfl, by decide, rfl, "PackTracer", zE_1 93 (by decide +kernel) rfl⟩, List.forall_mem_cons.mpr ⟨⟨_, _, _, rfl, by decide, rfl, "PackTracer", zE_2 17 (by decide +kernel) rfl⟩, List.forall_mem_cons.mpr ⟨⟨_, _, _, rfl, by decide, rfl, "PackTracer", zE_2 8 (by decide +kernel) rfl⟩, List.forall_mem_cons.mpr ⟨⟨_, _, _, rfl, by decide, rfl, "PackTracer", zE_1 214 (by decide +kernel) rfl⟩, List.forall_mem_cons.mpr ⟨⟨_, _, _, rfl, by decide, rfl, "PackTracer", zE_1 210 (by decide +kernel) rfl⟩, List.forall_mem_cons.mpr ⟨⟨_, _, _, rfl, by decide, rfl, "PackTracer", zE_1 82 (by decide +kernel) rfl⟩, List.forall_mem_cons.mpr ⟨⟨_, _, _, rfl, by decide, rfl, "PackTracer", zE_1 59 (by decide +kernel) rfl⟩, List.forall_mem_cons.mpr ⟨⟨_, _, _, rfl, by decide, rfl, "PackTracer", zE_2 16 (by decide +kernel) rfl⟩, List.forall_mem_cons.mpr ⟨⟨_, _, _, rfl, by decide, rfl, "PackTracer", zE_2 9 (by decide +kernel) rfl⟩, List.forall_mem_cons.mpr ⟨⟨_, _, _, rfl, by decide, rfl, "PackTracer", zE_1 212 (by decide +kernel) rfl⟩, List.forall_mem_cons.mpr ⟨⟨_, _, _, rfl, by decide, rfl, "PackTracer", zE_1 209 (by decide +kernel) rfl⟩, List.forall_mem_cons.mpr ⟨⟨_, _, _, rfl, by decide, rfl, "PackTracer", zE_1 60 (by decide +kernel) rfl⟩, List.forall_mem_cons.mpr ⟨⟨_, _, _, rfl, by decide, rfl, "PackTracer", zE_2 14 (by decide +kernel) rfl⟩, List.forall_mem_cons.mpr ⟨⟨_, _, _, rfl, by decide, rfl, "PackTracer", zE_1 206 (by decide +kernel) rfl⟩, List.forall_mem_cons.mpr ⟨⟨_, _, _, rfl, by decide, rfl, "PackTracer", zE_1 63 (by decide +kernel) rfl⟩, List.forall_mem_cons.mpr ⟨⟨_, _, _, rfl, by decide, rfl, "PackTracer", zE_1 144 (by decide +kernel) rfl⟩, List.forall_mem_cons.mpr ⟨⟨_, _, _, rfl, by decide, rfl, "PackTracer", zE_1 137 (by decide +kernel) rfl⟩, List.forall_mem_cons.mpr ⟨⟨_, _, _, rfl, by decide, rfl, "PackTracer", zE_1 141 (by decide +kernel) rfl⟩, fun _ h => absurd h List.not_mem_nil⟩⟩⟩⟩⟩⟩⟩⟩⟩⟩⟩⟩⟩⟩⟩⟩⟩⟩⟩⟩
theorem zLFn_ok_2 : ∀ r ∈ ([(4, 66, 7, 1), (4, 85, 1, 7), (4, 97, 1, 8), (4, 110, 1, 12), (4, 114, 1, 10), (4, 117, 1, 11), (4, 120, 1, 9), (5, 46, 2, 2), (5, 50, 2, 1), (5, 118, 1, 3), (5, 121, 1, 4), (7, 25, 6, 1), (7, 61, 6, 0), (8, 58, 1, 4), (8, 63, 1, 3), (8, 74, 1, 5), (8, 87, 1, 10), (8, 91, 1, 11), (8, 104, 1, 6)] : List _), zFn r := List.forall_mem_cons.mpr ⟨⟨_, _, _, rfl, by decide, rfl, "PackTracer", zE_1 139 (by decide +kernel) rfl⟩, List.forall_mem_cons.mpr ⟨⟨_, _, _, rfl, by decide, rfl, "PackTracer", zE_1 77 (by decide +kernel) rfl⟩, List.forall_mem_cons.mpr ⟨⟨_, _, _, rfl, by decide, rfl, "PackTracer", zE_1 80 (by decide +kernel) rfl⟩, List.forall_mem_cons.mpr ⟨⟨_, _, _, rfl, by decide, rfl, "PackTracer", zE_1 95 (by decide +kernel) rfl⟩, List.forall_mem_cons.mpr ⟨⟨_, _, _, rfl, by decide, rfl, "PackTracer", zE_1 87 (by decide +kernel) rfl⟩, List.forall_mem_cons.mpr ⟨⟨_, _, _, rfl, by decide, rfl, "PackTracer", zE_1 91 (by decide +kernel) rfl⟩, List.forall_mem_cons.mpr ⟨⟨_, _, _, rfl, by decide, rfl, "PackTracer", zE_1 84 (by decide +kernel) rfl⟩, List.forall_mem_cons.mpr ⟨⟨_, _, _, rfl, by decide, rfl, "PackTracer", zE_1 213 (by decide +kernel) rfl⟩, List.forall_mem_cons.mpr ⟨⟨_, _, _, rfl, by decide, rfl, "PackTracer", zE_1 208 (by decide +kernel) rfl⟩, List.forall_mem_cons.mpr ⟨⟨_, _, _, rfl, by decide, rfl, "PackTracer", zE_1 66 (by decide +kernel) rfl⟩, List.forall_mem_cons.mpr ⟨⟨_, _, _, rfl, by decide, rfl, "PackTracer", zE_1 70 (by decide +kernel) rfl⟩, List.forall_mem_cons.mpr ⟨⟨_, _, _, rfl, by decide, rfl, "PackTracer", zE_1 42 (by decide +kernel) rfl⟩, List.forall_mem_cons.mpr ⟨⟨_, _, _, rfl, by decide, rfl, "PackTracer", zE_1 40 (by decide +kernel) rfl⟩, List.forall_mem_cons.mpr ⟨⟨_, _, _, rfl, by decide, rfl, "PackTracer", zE_1 69 (by decide +kernel) rfl⟩, List.forall_mem_cons.mpr ⟨⟨_, _, _, rfl, by decide, rfl, "PackTracer", zE_1 65 (by decide +kernel) rfl⟩, List.forall_mem_cons.mpr ⟨⟨_, _, _, rfl, by decide, rfl, "PackTracer", zE_1 73 (by decide +kernel) rfl⟩, List.forall_mem_cons.mpr ⟨⟨_, _, _, rfl, by decide, rfl, "PackTracer", zE_1 88 (by decide +kernel) rfl⟩, List.forall_mem_cons.mpr ⟨⟨_, _, _, rfl, by decide, rfl, "PackTracer", zE_1 92 (by decide +kernel) rfl⟩, List.forall_mem_cons.mpr ⟨⟨_, _, _, rfl, by decide, rfl, "PackTracer", zE_1 75 (by decide +kernel) rfl⟩, fun _ h => absurd h List.not_mem_nil⟩⟩⟩⟩⟩⟩⟩⟩⟩⟩⟩⟩⟩⟩⟩⟩⟩⟩⟩
theorem zLFn_ok : ∀ r ∈ zLFn, zFn r := by
  intro r h
  have e : zLFn = [(9, 68, 6, 1), (9, 95, 4, 7), (9, 98, 4, 5), (9, 101, 4, 6), (9, 121, 1, 2), (9, 125, 1, 3), (9, 128, 1, 4), (9, 131, 1, 5), (9, 134, 5, 3), (9, 137, 5, 0), (9, 191, 1, 9), (9, 210, 0, 7), (9, 213, 0, 8), (9, 219, 0, 11), (9, 222, 0, 9), (9, 225, 0, 10), (9, 264, 3, 6), (9, 267, 3, 4), (9, 270, 3, 5), (9, 297, 1, 7)] ++ ([(9, 300, 1, 8), (9, 307, 1, 10), (9, 310, 1, 11), (0, 24, 5, 4), (0, 31, 5, 0), (0, 50, 2, 2), (0, 59, 2, 1), (2, 18, 1, 9), (2, 25, 1, 2), (3, 29, 5, 4), (3, 36, 5, 0), (3, 39, 2, 2), (3, 54, 2, 1), (3, 58, 1, 2), (3, 70, 5, 3), (3, 77, 2, 0), (3, 99, 1, 3), (4, 50, 7, 4), (4, 56, 7, 0), (4, 60, 7, 2)] ++ ([(4, 66, 7, 1), (4, 85, 1, 7), (4, 97, 1, 8), (4, 110, 1, 12), (4, 114, 1, 10), (4, 117, 1, 11), (4, 120, 1, 9), (5, 46, 2, 2), (5, 50, 2, 1), (5, 118, 1, 3), (5, 121, 1, 4), (7, 25, 6, 1), (7, 61, 6, 0), (8, 58, 1, 4), (8, 63, 1, 3), (8, 74, 1, 5), (8, 87, 1, 10), (8, 91, 1, 11), (8, 104, 1, 6)])) := rfl
  rw [e] at h
  simp only [List.mem_append] at h
  rcases h with h | h | h
  · exact zLFn_ok_0 r h
  · exact zLFn_ok_1 r h
  · exact zLFn_ok_2 r h
theorem zLM_ok_0 : ∀ r ∈ ([(0, 63, 6, 0), (0, 70, 7, 0), (0, 77, 4, 0), (0, 90, 5, 0), (1, 53, 254, 1), (1, 65, 18, 0), (1, 69, 17, 0), (1, 73, 11, 0), (1, 77, 20, 0), (3, 102, 36, 0), (3, 43, 30, 0), (3, 78, 34, 0), (4, 100, 49, 0), (4, 103, 48, 0), (4, 121, 46, 0), (4, 125, 47, 0), (4, 38, 39, 0), (4, 44, 40, 0), (4, 47, 41, 0), (4, 69, 42, 0)] : List _), zMp r := List.forall_mem_cons.mpr ⟨zT_4 125 (by decide +kernel) rfl, List.forall_mem_cons.mpr ⟨zT_4 131 (by decide +kernel) rfl, List.forall_mem_cons.mpr ⟨zT_4 143 (by decide +kernel) rfl, List.forall_mem_cons.mpr ⟨zT_4 149 (by decide +kernel) rfl, List.forall_mem_cons.mpr ⟨zT_2 157 (by decide +kernel) rfl, List.forall_mem_cons.mpr ⟨zT_3 60 (by decide +kernel) rfl, List.forall_mem_cons.mpr ⟨zT_3 64 (by decide +kernel) rfl, List.forall_mem_cons.mpr ⟨zT_3 68 (by decide +kernel) rfl, List.forall_mem_cons.mpr ⟨zT_5 83 (by decide +kernel) rfl, List.forall_mem_cons.mpr ⟨zT_5 24 (by decide +kernel) rfl, List.forall_mem_cons.mpr ⟨zT_4 100 (by decide +kernel) rfl, List.forall_mem_cons.mpr ⟨zT_5 9 (by decide +kernel) rfl, List.forall_mem_cons.mpr ⟨zT_3 48 (by decide +kernel) rfl, List.forall_mem_cons.mpr ⟨zT_3 52 (by decide +kernel) rfl, List.forall_mem_cons.mpr ⟨zT_3 80 (by decide +kernel) rfl, List.forall_mem_cons.mpr ⟨zT_3 84 (by decide +kernel) rfl, List.forall_mem_cons.mpr ⟨zT_3 16 (by decide +kernel) rfl, List.forall_mem_cons.mpr ⟨zT_3 20 (by decide +kernel) rfl, List.forall_mem_cons.mpr ⟨zT_3 24 (by decide +kernel) rfl, List.forall_mem_cons.mpr ⟨zT_3 28 (by decide +kernel) rfl, fun _ h => absurd h List.not_mem_nil⟩⟩⟩⟩⟩⟩⟩⟩⟩⟩⟩⟩⟩⟩⟩⟩⟩⟩⟩⟩
theorem zLM_ok_1 : ∀ r ∈ ([(4, 72, 43, 0), (4, 75, 44, 0), (4, 78, 45, 0), (4, 81, 50, 0), (5, 53, 53, 0), (5, 64, 54, 0), (5, 67, 56, 0), (5, 88, 253, 1), (7, 47, 75, 0), (7, 53, 76, 0), (7, 57, 74, 0), (7, 65, 79, 0), (7, 69, 77, 0), (7, 72, 80, 0), (7, 75, 78, 0), (7, 78, 81, 0), (8, 101, 90, 0), (8, 105, 99, 0), (8, 109, 100, 0), (8, 113, 87, 0)] : List _), zMp r := List.forall_mem_cons.mpr ⟨zT_3 44 (by decide +kernel) rfl, List.forall_mem_cons.mpr ⟨zT_3 72 (by decide +kernel) rfl, List.forall_mem_cons.mpr ⟨zT_3 76 (by decide +kernel) rfl, List.forall_mem_cons.mpr ⟨zT_3 32 (by decide +kernel) rfl, List.forall_mem_cons.mpr ⟨zT_3 125 (by decide +kernel) rfl, List.forall_mem_cons.mpr ⟨zT_3 234 (by decide +kernel) rfl, List.forall_mem_cons.mpr ⟨zT_4 86 (by decide +kernel) rfl, List.forall_mem_cons.mpr ⟨zT_4 184 (by decide +kernel) rfl, List.forall_mem_cons.mpr ⟨zT_2 174 (by decide +kernel) rfl, List.forall_mem_cons.mpr ⟨zT_2 178 (by decide +kernel) rfl, List.forall_mem_cons.mpr ⟨zT_3 12 (by decide +kernel) rfl, List.forall_mem_cons.mpr ⟨zT_2 182 (by decide +kernel) rfl, List.forall_mem_cons.mpr ⟨zT_2 186 (by decide +kernel) rfl, List.forall_mem_cons.mpr ⟨zT_3 3 (by decide +kernel) rfl, List.forall_mem_cons.mpr ⟨zT_3 7 (by decide +kernel) rfl, List.forall_mem_cons.mpr ⟨zT_2 190 (by decide +kernel) rfl, List.forall_mem_cons.mpr ⟨zT_3 165 (by decide +kernel) rfl, List.forall_mem_cons.mpr ⟨zT_3 178 (by decide +kernel) rfl, List.forall_mem_cons.mpr ⟨zT_3 182 (by decide +kernel) rfl, List.forall_mem_cons.mpr ⟨zT_3 190 (by decide +kernel) rfl, fun _ h => absurd h List.not_mem_nil⟩⟩⟩⟩⟩⟩⟩⟩⟩⟩⟩⟩⟩⟩⟩⟩⟩⟩⟩⟩
theorem zLM_ok_2 : ∀ r ∈ ([(8, 116, 101, 0), (8, 119, 102, 0), (8, 122, 91, 0), (8, 125, 92, 0), (8, 128, 104, 0), (8, 132, 253, 1), (8, 138, 111, 0), (8, 30, 254, 1), (8, 42, 88, 0), (8, 46, 85, 0), (8, 50, 89, 0), (8, 54, 94, 0), (8, 66, 98, 0), (8, 70, 86, 0), (8, 77, 95, 0), (8, 80, 97, 0), (8, 83, 96, 0), (8, 94, 103, 0), (9, 155, 149, 1), (9, 158, 150, 1)] : List _), zMp r := List.forall_mem_cons.mpr ⟨zT_3 194 (by decide +kernel) rfl, List.forall_mem_cons.mpr ⟨zT_3 198 (by decide +kernel) rfl, List.forall_mem_cons.mpr ⟨zT_4 2 (by decide +kernel) rfl, List.forall_mem_cons.mpr ⟨zT_4 6 (by decide +kernel) rfl, List.forall_mem_cons.mpr ⟨zT_4 10 (by decide +kernel) rfl, List.forall_mem_cons.mpr ⟨zT_4 14 (by decide +kernel) rfl, List.forall_mem_cons.mpr ⟨zT_4 52 (by decide +kernel) rfl, List.forall_mem_cons.mpr ⟨zT_3 124 (by decide +kernel) rfl, List.forall_mem_cons.mpr ⟨zT_3 141 (by decide +kernel) rfl, List.forall_mem_cons.mpr ⟨zT_3 145 (by decide +kernel) rfl, List.forall_mem_cons.mpr ⟨zT_3 149 (by decide +kernel) rfl, List.forall_mem_cons.mpr ⟨zT_3 137 (by decide +kernel) rfl, List.forall_mem_cons.mpr ⟨zT_3 174 (by decide +kernel) rfl, List.forall_mem_cons.mpr ⟨zT_3 186 (by decide +kernel) rfl, List.forall_mem_cons.mpr ⟨zT_3 153 (by decide +kernel) rfl, List.forall_mem_cons.mpr ⟨zT_3 161 (by decide +kernel) rfl, List.forall_mem_cons.mpr ⟨zT_3 169 (by decide +kernel) rfl, List.forall_mem_cons.mpr ⟨zT_3 157 (by decide +kernel) rfl, List.forall_mem_cons.mpr ⟨zT_3 224 (by decide +kernel) rfl, List.forall_mem_cons.mpr ⟨zT_3 227 (by decide +kernel) rfl, fun _ h => absurd h List.not_mem_nil⟩⟩⟩⟩⟩⟩⟩⟩⟩⟩⟩⟩⟩⟩⟩⟩⟩⟩⟩⟩
theorem zLM_ok_3 : ∀ r ∈ ([(9, 174, 153, 1), (9, 178, 152, 0), (9, 245, 151, 0), (9, 79, 116, 0), (10, 108, 156, 0), (10, 118, 157, 1), (10, 125, 160, 0), (10, 131, 158, 1), (10, 151, 159, 0), (10, 154, 161, 0), (10, 158, 162, 0), (10, 161, 164, 0), (10, 164, 165, 0), (10, 167, 163, 0), (10, 175, 169, 0), (10, 178, 170, 0), (10, 181, 166, 0), (10, 184, 167, 0), (10, 187, 168, 0), (10, 194, 171, 0)] : List _), zMp r := List.forall_mem_cons.mpr ⟨zT_4 25 (by decide +kernel) rfl, List.forall_mem_cons.mpr ⟨zT_4 32 (by decide +kernel) rfl, List.forall_mem_cons.mpr ⟨zT_4 36 (by decide +kernel) rfl, List.forall_mem_cons.mpr ⟨zT_3 92 (by decide +kernel) rfl, List.forall_mem_cons.mpr ⟨zT_6 112 (by decide +kernel) rfl, List.forall_mem_cons.mpr ⟨zT_6 116 (by decide +kernel) rfl, List.forall_mem_cons.mpr ⟨zT_6 119 (by decide +kernel) rfl, List.forall_mem_cons.mpr ⟨zT_6 126 (by decide +kernel) rfl, List.forall_mem_cons.mpr ⟨zT_6 108 (by decide +kernel) rfl, List.forall_mem_cons.mpr ⟨zT_6 137 (by decide +kernel) rfl, List.forall_mem_cons.mpr ⟨zT_6 141 (by decide +kernel) rfl, List.forall_mem_cons.mpr ⟨zT_6 157 (by decide +kernel) rfl, List.forall_mem_cons.mpr ⟨zT_6 153 (by decide +kernel) rfl, List.forall_mem_cons.mpr ⟨zT_6 145 (by decide +kernel) rfl, List.forall_mem_cons.mpr ⟨zT_6 149 (by decide +kernel) rfl, List.forall_mem_cons.mpr ⟨zT_6 133 (by decide +kernel) rfl, List.forall_mem_cons.mpr ⟨zT_6 161 (by decide +kernel) rfl, List.forall_mem_cons.mpr ⟨zT_6 165 (by decide +kernel) rfl, List.forall_mem_cons.mpr ⟨zT_6 169 (by decide +kernel) rfl, List.forall_mem_cons.mpr ⟨zT_6 129 (by decide +kernel) rfl, fun _ h => absurd h List.not_mem_nil⟩⟩⟩⟩⟩⟩⟩⟩⟩⟩⟩⟩⟩⟩⟩⟩⟩⟩⟩⟩
theorem zLM_ok_4 : ∀ r ∈ ([(10, 204, 178, 0), (10, 207, 173, 0), (10, 211, 210, 0), (10, 214, 180, 0), (10, 217, 181, 0), (10, 223, 183, 0), (10, 226, 186, 0), (10, 230, 185, 0), (10, 234, 188, 0), (10, 237, 190, 0), (10, 241, 189, 0), (10, 245, 187, 0), (10, 248, 191, 0), (10, 251, 194, 0), (10, 255, 193, 0), (10, 259, 195, 0), (10, 262, 196, 0), (10, 265, 197, 0), (10, 268, 184, 0), (10, 271, 192, 0)] : List _), zMp r := List.forall_mem_cons.mpr ⟨zT_5 195 (by decide +kernel) rfl, List.forall_mem_cons.mpr ⟨zT_6 104 (by decide +kernel) rfl, List.forall_mem_cons.mpr ⟨zT_6 185 (by decide +kernel) rfl, List.forall_mem_cons.mpr ⟨zT_6 193 (by decide +kernel) rfl, List.forall_mem_cons.mpr ⟨zT_6 205 (by decide +kernel) rfl, List.forall_mem_cons.mpr ⟨zT_6 217 (by decide +kernel) rfl, List.forall_mem_cons.mpr ⟨zT_7 9 (by decide +kernel) rfl, List.forall_mem_cons.mpr ⟨zT_6 229 (by decide +kernel) rfl, List.forall_mem_cons.mpr ⟨zT_6 233 (by decide +kernel) rfl, List.forall_mem_cons.mpr ⟨zT_6 237 (by decide +kernel) rfl, List.forall_mem_cons.mpr ⟨zT_7 1 (by decide +kernel) rfl, List.forall_mem_cons.mpr ⟨zT_7 5 (by decide +kernel) rfl, List.forall_mem_cons.mpr ⟨zT_6 225 (by decide +kernel) rfl, List.forall_mem_cons.mpr ⟨zT_7 13 (by decide +kernel) rfl, List.forall_mem_cons.mpr ⟨zT_7 17 (by decide +kernel) rfl, List.forall_mem_cons.mpr ⟨zT_7 21 (by decide +kernel) rfl, List.forall_mem_cons.mpr ⟨zT_7 25 (by decide +kernel) rfl, List.forall_mem_cons.mpr ⟨zT_7 29 (by decide +kernel) rfl, List.forall_mem_cons.mpr ⟨zT_6 213 (by decide +kernel) rfl, List.forall_mem_cons.mpr ⟨zT_6 221 (by decide +kernel) rfl, fun _ h => absurd h List.not_mem_nil⟩⟩⟩⟩⟩⟩⟩⟩⟩⟩⟩⟩⟩⟩⟩⟩⟩⟩⟩⟩
theorem zLM_ok_5 : ∀ r ∈ ([(10, 274, 182, 0), (10, 277, 198, 0), (10, 280, 199, 0), (10, 283, 203, 0), (10, 286, 204, 0), (10, 289, 205, 1), (10, 292, 206, 1), (10, 295, 200, 0), (10, 298, 201, 0), (10, 301, 207, 0), (10, 304, 212, 0), (10, 310, 214, 0), (10, 313, 216, 0), (10, 316, 219, 0), (10, 319, 222, 0), (10, 323, 224, 0), (10, 335, 226, 0), (10, 338, 229, 0), (10, 341, 232, 0), (10, 344, 235, 0)] : List _), zMp r := List.forall_mem_cons.mpr ⟨zT_6 201 (by decide +kernel) rfl, List.forall_mem_cons.mpr ⟨zT_6 209 (by decide +kernel) rfl, List.forall_mem_cons.mpr ⟨zT_6 197 (by decide +kernel) rfl, List.forall_mem_cons.mpr ⟨zT_7 33 (by decide +kernel) rfl, List.forall_mem_cons.mpr ⟨zT_7 37 (by decide +kernel) rfl, List.forall_mem_cons.mpr ⟨zT_7 45 (by decide +kernel) rfl, List.forall_mem_cons.mpr ⟨zT_7 48 (by decide +kernel) rfl, List.forall_mem_cons.mpr ⟨zT_7 51 (by decide +kernel) rfl, List.forall_mem_cons.mpr ⟨zT_7 55 (by decide +kernel) rfl, List.forall_mem_cons.mpr ⟨zT_7 59 (by decide +kernel) rfl, List.forall_mem_cons.mpr ⟨zT_7 75 (by decide +kernel) rfl, List.forall_mem_cons.mpr ⟨zT_7 83 (by decide +kernel) rfl, List.forall_mem_cons.mpr ⟨zT_7 91 (by decide +kernel) rfl, List.forall_mem_cons.mpr ⟨zT_7 103 (by decide +kernel) rfl, List.forall_mem_cons.mpr ⟨zT_7 115 (by decide +kernel) rfl, List.forall_mem_cons.mpr ⟨zT_7 123 (by decide +kernel) rfl, List.forall_mem_cons.mpr ⟨zT_7 131 (by decide +kernel) rfl, List.forall_mem_cons.mpr ⟨zT_7 143 (by decide +kernel) rfl, List.forall_mem_cons.mpr ⟨zT_7 155 (by decide +kernel) rfl, List.forall_mem_cons.mpr ⟨zT_7 167 (by decide +kernel) rfl, fun _ h => absurd h List.not_mem_nil⟩⟩⟩⟩⟩⟩⟩⟩⟩⟩⟩⟩⟩⟩⟩⟩⟩⟩⟩⟩
theorem zLM_ok_6 : ∀ r ∈ ([(10, 347, 236, 1), (10, 351, 238, 0), (10, 354, 241, 0), (10, 358, 248, 0), (10, 361, 252, 0), (10, 90, 172, 0), (10, 93, 174, 0)] : List _), zMp r := List.forall_mem_cons.mpr ⟨zT_7 171 (by decide +kernel) rfl, List.forall_mem_cons.mpr ⟨zT_7 178 (by decide +kernel) rfl, List.forall_mem_cons.mpr ⟨zT_7 190 (by decide +kernel) rfl, List.forall_mem_cons.mpr ⟨zT_7 218 (by decide +kernel) rfl, List.forall_mem_cons.mpr ⟨zT_7 230 (by decide +kernel) rfl, List.forall_mem_cons.mpr ⟨zT_5 186 (by decide +kernel) rfl, List.forall_mem_cons.mpr ⟨zT_5 191 (by decide +kernel) rfl, fun _ h => absurd h List.not_mem_nil⟩⟩⟩⟩⟩⟩⟩
theorem zLM_ok : ∀ r ∈ zLM, zMp r := by
  intro r h
  have e : zLM = [(0, 63, 6, 0), (0, 70, 7, 0), (0, 77, 4, 0), (0, 90, 5, 0), (1, 53, 254, 1), (1, 65, 18, 0), (1, 69, 17, 0), (1, 73, 11, 0), (1, 77, 20, 0), (3, 102, 36, 0), (3, 43, 30, 0), (3, 78, 34, 0), (4, 100, 49, 0), (4, 103, 48, 0), (4, 121, 46, 0), (4, 125, 47, 0), (4, 38, 39, 0), (4, 44, 40, 0), (4, 47, 41, 0), (4, 69, 42, 0)] ++ ([(4, 72, 43, 0), (4, 75, 44, 0), (4, 78, 45, 0), (4, 81, 50, 0), (5, 53, 53, 0), (5, 64, 54, 0), (5, 67, 56, 0), (5, 88, 253, 1), (7, 47, 75, 0), (7, 53, 76, 0), (7, 57, 74, 0), (7, 65, 79, 0), (7, 69, 77, 0), (7, 72, 80, 0), (7, 75, 78, 0), (7, 78, 81, 0), (8, 101, 90, 0), (8, 105, 99, 0), (8, 109, 100, 0), (8, 113, 87, 0)] ++ ([(8, 116, 101, 0), (8, 119, 102, 0), (8, 122, 91, 0), (8, 125, 92, 0), (8, 128, 104, 0), (8, 132, 253, 1), (8, 138, 111, 0), (8, 30, 254, 1), (8, 42, 88, 0), (8, 46, 85, 0), (8, 50, 89, 0), (8, 54, 94, 0), (8, 66, 98, 0), (8, 70, 86, 0), (8, 77, 95, 0), (8, 80, 97, 0), (8, 83, 96, 0), (8, 94, 103, 0), (9, 155, 149, 1), (9, 158, 150, 1)] ++ ([(9, 174, 153, 1), (9, 178, 152, 0), (9, 245, 151, 0), (9, 79, 116, 0), (10, 108, 156, 0), (10, 118, 157, 1), (10, 125, 160, 0), (10, 131, 158, 1), (10, 151, 159, 0), (10, 154, 161, 0), (10, 158, 162, 0), (10, 161, 164, 0), (10, 164, 165, 0), (10, 167, 163, 0), (10, 175, 169, 0), (10, 178, 170, 0), (10, 181, 166, 0), (10, 184, 167, 0), (10, 187, 168, 0), (10, 194, 171, 0)] ++ ([(10, 204, 178, 0), (10, 207, 173, 0), (10, 211, 210, 0), (10, 214, 180, 0), (10, 217, 181, 0), (10, 223, 183, 0), (10, 226, 186, 0), (10, 230, 185, 0), (10, 234, 188, 0), (10, 237, 190, 0), (10, 241, 189, 0), (10, 245, 187, 0), (10, 248, 191, 0), (10, 251, 194, 0), (10, 255, 193, 0), (10, 259, 195, 0), (10, 262, 196, 0), (10, 265, 197, 0), (10, 268, 184, 0), (10, 271, 192, 0)] ++ ([(10, 274, 182, 0), (10, 277, 198, 0), (10, 280, 199, 0), (10, 283, 203, 0), (10, 286, 204, 0), (10, 289, 205, 1), (10, 292, 206, 1), (10, 295, 200, 0), (10, 298, 201, 0), (10, 301, 207, 0), (10, 304, 212, 0), (10, 310, 214, 0), (10, 313, 216, 0), (10, 316, 219, 0), (10, 319, 222, 0), (10, 323, 224, 0), (10, 335, 226, 0), (10, 338, 229, 0), (10, 341, 232, 0), (10, 344, 235, 0)] ++ ([(10, 347, 236, 1), (10, 351, 238, 0), (10, 354, 241, 0), (10, 358, 248, 0), (10, 361, 252, 0), (10, 90, 172, 0), (10, 93, 174, 0)])))))) := rfl
  rw [e] at h
  simp only [List.mem_append] at h
  rcases h with h | h | h | h | h | h | h
  · exact zLM_ok_0 r h
  · exact zLM_ok_1 r h
  · exact zLM_ok_2 r h
  · exact zLM_ok_3 r h
  · exact zLM_ok_4 r h
  · exact zLM_ok_5 r h
  · exact zLM_ok_6 r h
theorem zLMn_ok_0 : ∀ r ∈ ([(0, 100, 27, 0), (0, 104, 93, 0), (0, 11, 82, 2), (0, 47, 83, 0), (0, 55, 84, 0), (3, 11, 82, 2), (3, 20, 23, 2), (3, 47, 91, 0), (3, 51, 83, 0), (3, 63, 93, 0), (3, 67, 26, 0), (3, 73, 24, 0), (3, 81, 25, 0), (3, 84, 27, 0), (3, 96, 94, 0), (4, 106, 15, 0), (4, 128, 16, 0), (4, 17, 72, 2), (4, 28, 73, 0), (4, 90, 13, 0)] : List _), zMn r := List.forall_mem_cons.mpr ⟨⟨"PackTracer", zE_4 129 (by decide +kernel) rfl⟩, List.forall_mem_cons.mpr ⟨⟨"PackTracer", zE_4 130 (by decide +kernel) rfl⟩, List.forall_mem_cons.mpr ⟨⟨"PackTracer", zE_2 72 (by decide +kernel) rfl⟩, List.forall_mem_cons.mpr ⟨⟨"PackTracer", zE_4 123 (by decide +kernel) rfl⟩, List.forall_mem_cons.mpr ⟨⟨"PackTracer", zE_4 124 (by decide +kernel) rfl⟩, List.forall_mem_cons.mpr ⟨⟨"PackTracer", zE_2 37 (by decide +kernel) rfl⟩, List.forall_mem_cons.mpr ⟨⟨"PackTracer", zE_2 39 (by decide +kernel) rfl⟩, List.forall_mem_cons.mpr ⟨⟨"PackTracer", zE_4 106 (by decide +kernel) rfl⟩, List.forall_mem_cons.mpr ⟨⟨"PackTracer", zE_4 104 (by decide +kernel) rfl⟩, List.forall_mem_cons.mpr ⟨⟨"PackTracer", zE_4 105 (by decide +kernel) rfl⟩, List.forall_mem_cons.mpr ⟨⟨"PackTracer", zE_4 232 (by decide +kernel) rfl⟩, List.forall_mem_cons.mpr ⟨⟨"PackTracer", zE_5 8 (by decide +kernel) rfl⟩, List.forall_mem_cons.mpr ⟨⟨"PackTracer", zE_5 13 (by decide +kernel) rfl⟩, List.forall_mem_cons.mpr ⟨⟨"PackTracer", zE_5 14 (by decide +kernel) rfl⟩, List.forall_mem_cons.mpr ⟨⟨"PackTracer", zE_5 23 (by decide +kernel) rfl⟩, List.forall_mem_cons.mpr ⟨⟨"PackTracer", zE_3 56 (by decide +kernel) rfl⟩, List.forall_mem_cons.mpr ⟨⟨"PackTracer", zE_3 88 (by decide +kernel) rfl⟩, List.forall_mem_cons.mpr ⟨⟨"PackTracer", zE_1 132 (by decide +kernel) rfl⟩, List.forall_mem_cons.mpr ⟨⟨"PackTracer", zE_2 164 (by decide +kernel) rfl⟩, List.forall_mem_cons.mpr ⟨⟨"PackTracer", zE_3 36 (by decide +kernel) rfl⟩, fun _ h => absurd h List.not_mem_nil⟩⟩⟩⟩⟩⟩⟩⟩⟩⟩⟩⟩⟩⟩⟩⟩⟩⟩⟩⟩
theorem zLMn_ok_1 : ∀ r ∈ ([(4, 94, 14, 0), (5, 103, 88, 0), (5, 107, 85, 0), (5, 11, 23, 2), (5, 111, 107, 0), (5, 115, 104, 0), (5, 20, 82, 2), (5, 36, 24, 0), (5, 40, 25, 0), (5, 43, 83, 0), (5, 57, 27, 0), (5, 60, 93, 0), (5, 71, 84, 0), (5, 75, 91, 0), (5, 78, 22, 0), (5, 84, 105, 0), (5, 94, 17, 0), (8, 97, 17, 0), (9, 104, 11, 0), (9, 107, 17, 0)] : List _), zMn r := List.forall_mem_cons.mpr ⟨⟨"PackTracer", zE_3 40 (by decide +kernel) rfl⟩, List.forall_mem_cons.mpr ⟨⟨"PackTracer", zE_4 161 (by decide +kernel) rfl⟩, List.forall_mem_cons.mpr ⟨⟨"PackTracer", zE_4 162 (by decide +kernel) rfl⟩, List.forall_mem_cons.mpr ⟨⟨"PackTracer", zE_1 201 (by decide +kernel) rfl⟩, List.forall_mem_cons.mpr ⟨⟨"PackTracer", zE_4 163 (by decide +kernel) rfl⟩, List.forall_mem_cons.mpr ⟨⟨"PackTracer", zE_4 175 (by decide +kernel) rfl⟩, List.forall_mem_cons.mpr ⟨⟨"PackTracer", zE_1 224 (by decide +kernel) rfl⟩, List.forall_mem_cons.mpr ⟨⟨"PackTracer", zE_3 111 (by decide +kernel) rfl⟩, List.forall_mem_cons.mpr ⟨⟨"PackTracer", zE_3 116 (by decide +kernel) rfl⟩, List.forall_mem_cons.mpr ⟨⟨"PackTracer", zE_3 120 (by decide +kernel) rfl⟩, List.forall_mem_cons.mpr ⟨⟨"PackTracer", zE_3 129 (by decide +kernel) rfl⟩, List.forall_mem_cons.mpr ⟨⟨"PackTracer", zE_3 133 (by decide +kernel) rfl⟩, List.forall_mem_cons.mpr ⟨⟨"PackTracer", zE_4 87 (by decide +kernel) rfl⟩, List.forall_mem_cons.mpr ⟨⟨"PackTracer", zE_4 64 (by decide +kernel) rfl⟩, List.forall_mem_cons.mpr ⟨⟨"PackTracer", zE_4 210 (by decide +kernel) rfl⟩, List.forall_mem_cons.mpr ⟨⟨"PackTracer", zE_4 223 (by decide +kernel) rfl⟩, List.forall_mem_cons.mpr ⟨⟨"PackTracer", zE_5 60 (by decide +kernel) rfl⟩, List.forall_mem_cons.mpr ⟨⟨"PackTracer", zE_3 173 (by decide +kernel) rfl⟩, List.forall_mem_cons.mpr ⟨⟨"PackTracer", zE_3 218 (by decide +kernel) rfl⟩, List.forall_mem_cons.mpr ⟨⟨"PackTracer", zE_3 219 (by decide +kernel) rfl⟩, fun _ h => absurd h List.not_mem_nil⟩⟩⟩⟩⟩⟩⟩⟩⟩⟩⟩⟩⟩⟩⟩⟩⟩⟩⟩⟩
theorem zLMn_ok_2 : ∀ r ∈ ([(9, 111, 12, 0), (9, 141, 26, 0), (9, 147, 20, 0), (9, 161, 55, 0), (9, 165, 109, 0), (9, 170, 104, 0), (9, 18, 8, 2), (9, 181, 105, 0), (9, 184, 110, 0), (9, 187, 59, 0), (9, 192, 56, 0), (9, 195, 91, 0), (9, 198, 57, 0), (9, 201, 29, 0), (9, 204, 58, 0), (9, 207, 2, 0), (9, 216, 3, 0), (9, 228, 64, 0), (9, 232, 65, 0), (9, 236, 66, 0)] : List _), zMn r := List.forall_mem_cons.mpr ⟨⟨"PackTracer", zE_4 78 (by decide +kernel) rfl⟩, List.forall_mem_cons.mpr ⟨⟨"PackTracer", zE_5 162 (by decide +kernel) rfl⟩, List.forall_mem_cons.mpr ⟨⟨"PackTracer", zE_5 163 (by decide +kernel) rfl⟩, List.forall_mem_cons.mpr ⟨⟨"PackTracer", zE_3 230 (by decide +kernel) rfl⟩, List.forall_mem_cons.mpr ⟨⟨"PackTracer", zE_3 238 (by decide +kernel) rfl⟩, List.forall_mem_cons.mpr ⟨⟨"PackTracer", zE_4 24 (by decide +kernel) rfl⟩, List.forall_mem_cons.mpr ⟨⟨"PackTracer", zE_1 52 (by decide +kernel) rfl⟩, List.forall_mem_cons.mpr ⟨⟨"PackTracer", zE_4 40 (by decide +kernel) rfl⟩, List.forall_mem_cons.mpr ⟨⟨"PackTracer", zE_4 48 (by decide +kernel) rfl⟩, List.forall_mem_cons.mpr ⟨⟨"PackTracer", zE_4 60 (by decide +kernel) rfl⟩, List.forall_mem_cons.mpr ⟨⟨"PackTracer", zE_4 69 (by decide +kernel) rfl⟩, List.forall_mem_cons.mpr ⟨⟨"PackTracer", zE_4 73 (by decide +kernel) rfl⟩, List.forall_mem_cons.mpr ⟨⟨"PackTracer", zE_4 82 (by decide +kernel) rfl⟩, List.forall_mem_cons.mpr ⟨⟨"PackTracer", zE_4 96 (by decide +kernel) rfl⟩, List.forall_mem_cons.mpr ⟨⟨"PackTracer", zE_4 111 (by decide +kernel) rfl⟩, List.forall_mem_cons.mpr ⟨⟨"PackTracer", zE_4 119 (by decide +kernel) rfl⟩, List.forall_mem_cons.mpr ⟨⟨"PackTracer", zE_4 139 (by decide +kernel) rfl⟩, List.forall_mem_cons.mpr ⟨⟨"PackTracer", zE_4 157 (by decide +kernel) rfl⟩, List.forall_mem_cons.mpr ⟨⟨"PackTracer", zE_4 171 (by decide +kernel) rfl⟩, List.forall_mem_cons.mpr ⟨⟨"PackTracer", zE_4 180 (by decide +kernel) rfl⟩, fun _ h => absurd h List.not_mem_nil⟩⟩⟩⟩⟩⟩⟩⟩⟩⟩⟩⟩⟩⟩⟩⟩⟩⟩⟩⟩
theorem zLMn_ok_3 : ∀ r ∈ ([(9, 239, 67, 0), (9, 242, 108, 0), (9, 248, 60, 0), (9, 251, 61, 0), (9, 254, 31, 0), (9, 257, 32, 0), (9, 261, 35, 0), (9, 273, 106, 0), (9, 276, 33, 0), (9, 279, 63, 0), (9, 28, 37, 2), (9, 283, 62, 0), (9, 286, 68, 0), (9, 289, 92, 0), (9, 303, 21, 0), (9, 37, 51, 2), (9, 46, 28, 2), (9, 55, 0, 2), (9, 60, 70, 0), (9, 64, 71, 0)] : List _), zMn r := List.forall_mem_cons.mpr ⟨⟨"PackTracer", zE_4 190 (by decide +kernel) rfl⟩, List.forall_mem_cons.mpr ⟨⟨"PackTracer", zE_4 198 (by decide +kernel) rfl⟩, List.forall_mem_cons.mpr ⟨⟨"PackTracer", zE_4 206 (by decide +kernel) rfl⟩, List.forall_mem_cons.mpr ⟨⟨"PackTracer", zE_4 219 (by decide +kernel) rfl⟩, List.forall_mem_cons.mpr ⟨⟨"PackTracer", zE_4 228 (by decide +kernel) rfl⟩, List.forall_mem_cons.mpr ⟨⟨"PackTracer", zE_5 4 (by decide +kernel) rfl⟩, List.forall_mem_cons.mpr ⟨⟨"PackTracer", zE_5 19 (by decide +kernel) rfl⟩, List.forall_mem_cons.mpr ⟨⟨"PackTracer", zE_5 32 (by decide +kernel) rfl⟩, List.forall_mem_cons.mpr ⟨⟨"PackTracer", zE_5 40 (by decide +kernel) rfl⟩, List.forall_mem_cons.mpr ⟨⟨"PackTracer", zE_5 48 (by decide +kernel) rfl⟩, List.forall_mem_cons.mpr ⟨⟨"PackTracer", zE_1 126 (by decide +kernel) rfl⟩, List.forall_mem_cons.mpr ⟨⟨"PackTracer", zE_5 56 (by decide +kernel) rfl⟩, List.forall_mem_cons.mpr ⟨⟨"PackTracer", zE_5 65 (by decide +kernel) rfl⟩, List.forall_mem_cons.mpr ⟨⟨"PackTracer", zE_5 73 (by decide +kernel) rfl⟩, List.forall_mem_cons.mpr ⟨⟨"PackTracer", zE_5 79 (by decide +kernel) rfl⟩, List.forall_mem_cons.mpr ⟨⟨"PackTracer", zE_1 195 (by decide +kernel) rfl⟩, List.forall_mem_cons.mpr ⟨⟨"PackTracer", zE_2 32 (by decide +kernel) rfl⟩, List.forall_mem_cons.mpr ⟨⟨"PackTracer", zE_2 67 (by decide +kernel) rfl⟩, List.forall_mem_cons.mpr ⟨⟨"PackTracer", zE_2 141 (by decide +kernel) rfl⟩, List.forall_mem_cons.mpr ⟨⟨"PackTracer", zE_2 145 (by decide +kernel) rfl⟩, fun _ h => absurd h List.not_mem_nil⟩⟩⟩⟩⟩⟩⟩⟩⟩⟩⟩⟩⟩⟩⟩⟩⟩⟩⟩⟩
theorem zLMn_ok_4 : ∀ r ∈ ([(9, 72, 9, 0), (9, 75, 38, 0), (9, 83, 10, 0), (9, 86, 19, 0), (9, 89, 52, 0), (9, 9, 69, 2), (9, 92, 1, 0)] : List _), zMn r := List.forall_mem_cons.mpr ⟨⟨"PackTracer", zE_2 153 (by decide +kernel) rfl⟩, List.forall_mem_cons.mpr ⟨⟨"PackTracer", zE_2 160 (by decide +kernel) rfl⟩, List.forall_mem_cons.mpr ⟨⟨"PackTracer", zE_3 100 (by decide +kernel) rfl⟩, List.forall_mem_cons.mpr ⟨⟨"PackTracer", zE_3 96 (by decide +kernel) rfl⟩, List.forall_mem_cons.mpr ⟨⟨"PackTracer", zE_3 107 (by decide +kernel) rfl⟩, List.forall_mem_cons.mpr ⟨⟨"PackTracer", zE_1 35 (by decide +kernel) rfl⟩, List.forall_mem_cons.mpr ⟨⟨"PackTracer", zE_3 202 (by decide +kernel) rfl⟩, fun _ h => absurd h List.not_mem_nil⟩⟩⟩⟩⟩⟩⟩
theorem zLMn_ok : ∀ r ∈ zLMn, zMn r := by
  intro r h
  have e : zLMn = [(0, 100, 27, 0), (0, 104, 93, 0), (0, 11, 82, 2), (0, 47, 83, 0), (0, 55, 84, 0), (3, 11, 82, 2), (3, 20, 23, 2), (3, 47, 91, 0), (3, 51, 83, 0), (3, 63, 93, 0), (3, 67, 26, 0), (3, 73, 24, 0), (3, 81, 25, 0), (3, 84, 27, 0), (3, 96, 94, 0), (4, 106, 15, 0), (4, 128, 16, 0), (4, 17, 72, 2), (4, 28, 73, 0), (4, 90, 13, 0)] ++ ([(4, 94, 14, 0), (5, 103, 88, 0), (5, 107, 85, 0), (5, 11, 23, 2), (5, 111, 107, 0), (5, 115, 104, 0), (5, 20, 82, 2), (5, 36, 24, 0), (5, 40, 25, 0), (5, 43, 83, 0), (5, 57, 27, 0), (5, 60, 93, 0), (5, 71, 84, 0), (5, 75, 91, 0), (5, 78, 22, 0), (5, 84, 105, 0), (5, 94, 17, 0), (8, 97, 17, 0), (9, 104, 11, 0), (9, 107, 17, 0)] ++ ([(9, 111, 12, 0), (9, 141, 26, 0), (9, 147, 20, 0), (9, 161, 55, 0), (9, 165, 109, 0), (9, 170, 104, 0), (9, 18, 8, 2), (9, 181, 105, 0), (9, 184, 110, 0), (9, 187, 59, 0), (9, 192, 56, 0), (9, 195, 91, 0), (9, 198, 57, 0), (9, 201, 29, 0), (9, 204, 58, 0), (9, 207, 2, 0), (9, 216, 3, 0), (9, 228, 64, 0), (9, 232, 65, 0), (9, 236, 66, 0)] ++ ([(9, 239, 67, 0), (9, 242, 108, 0), (9, 248, 60, 0), (9, 251, 61, 0), (9, 254, 31, 0), (9, 257, 32, 0), (9, 261, 35, 0), (9, 273, 106, 0), (9, 276, 33, 0), (9, 279, 63, 0), (9, 28, 37, 2), (9, 283, 62, 0), (9, 286, 68, 0), (9, 289, 92, 0), (9, 303, 21, 0), (9, 37, 51, 2), (9, 46, 28, 2), (9, 55, 0, 2), (9, 60, 70, 0), (9, 64, 71, 0)] ++ ([(9, 72, 9, 0), (9, 75, 38, 0), (9, 83, 10, 0), (9, 86, 19, 0), (9, 89, 52, 0), (9, 9, 69, 2), (9, 92, 1, 0)])))) := rfl
  rw [e] at h
  simp only [List.mem_append] at h
  rcases h with h | h | h | h | h
  · exact zLMn_ok_0 r h
  · exact zLMn_ok_1 r h
  · exact zLMn_ok_2 r h
  · exact zLMn_ok_3 r h
  · exact zLMn_ok_4 r h
def zAp (r : Nat × Nat) : Prop := Cond.methodLink (zcn r.1) r.2 arraycopyName ∈ zBG
def zOp (r : Nat × Nat) : Prop := Cond.methodLink (zcn r.1) r.2 objectInit ∈ zBG
def zXp (r : Nat × Nat) : Prop := Cond.methodLink (zcn r.1) r.2 Lib.Math.max.name ∈ zBG
def zNp (r : Nat × Nat) : Prop := Cond.methodLink (zcn r.1) r.2 Lib.Math.min.name ∈ zBG
theorem zLx_ok_0 : ∀ r ∈ ([(0, 87), (1, 80), (5, 98), (7, 37), (9, 292)] : List _), zXp r := List.forall_mem_cons.mpr ⟨zT_4 148 (by decide +kernel) rfl, List.forall_mem_cons.mpr ⟨zT_4 214 (by decide +kernel) rfl, List.forall_mem_cons.mpr ⟨zT_4 185 (by decide +kernel) rfl, List.forall_mem_cons.mpr ⟨zT_2 171 (by decide +kernel) rfl, List.forall_mem_cons.mpr ⟨zT_5 74 (by decide +kernel) rfl, fun _ h => absurd h List.not_mem_nil⟩⟩⟩⟩⟩
theorem zLx_ok : ∀ r ∈ zLx, zXp r := zLx_ok_0
theorem zLn_ok_0 : ∀ r ∈ ([(0, 81), (7, 31)] : List _), zNp r := List.forall_mem_cons.mpr ⟨zT_4 147 (by decide +kernel) rfl, List.forall_mem_cons.mpr ⟨zT_2 168 (by decide +kernel) rfl, fun _ h => absurd h List.not_mem_nil⟩⟩
theorem zLn_ok : ∀ r ∈ zLn, zNp r := zLn_ok_0
theorem zLa_ok_0 : ∀ r ∈ ([(1, 59), (2, 26), (8, 36)] : List _), zAp r := List.forall_mem_cons.mpr ⟨zT_3 104 (by decide +kernel) rfl, List.forall_mem_cons.mpr ⟨zT_3 115 (by decide +kernel) rfl, List.forall_mem_cons.mpr ⟨zT_4 91 (by decide +kernel) rfl, fun _ h => absurd h List.not_mem_nil⟩⟩⟩
theorem zLa_ok : ∀ r ∈ zLa, zAp r := zLa_ok_0
theorem zLo_ok_0 : ∀ r ∈ ([(0, 3), (1, 3), (2, 3), (3, 3), (4, 3), (5, 3), (6, 3), (7, 3), (8, 3), (9, 1), (10, 1)] : List _), zOp r := List.forall_mem_cons.mpr ⟨zT_2 70 (by decide +kernel) rfl, List.forall_mem_cons.mpr ⟨zT_1 55 (by decide +kernel) rfl, List.forall_mem_cons.mpr ⟨zT_1 204 (by decide +kernel) rfl, List.forall_mem_cons.mpr ⟨zT_2 35 (by decide +kernel) rfl, List.forall_mem_cons.mpr ⟨zT_1 129 (by decide +kernel) rfl, List.forall_mem_cons.mpr ⟨zT_1 198 (by decide +kernel) rfl, List.forall_mem_cons.mpr ⟨zT_1 38 (by decide +kernel) rfl, List.forall_mem_cons.mpr ⟨zT_1 135 (by decide +kernel) rfl, List.forall_mem_cons.mpr ⟨zT_1 227 (by decide +kernel) rfl, List.forall_mem_cons.mpr ⟨zT_1 30 (by decide +kernel) rfl, List.forall_mem_cons.mpr ⟨zT_5 185 (by decide +kernel) rfl, fun _ h => absurd h List.not_mem_nil⟩⟩⟩⟩⟩⟩⟩⟩⟩⟩⟩
theorem zLo_ok : ∀ r ∈ zLo, zOp r := zLo_ok_0
def zWp (r : Nat × Nat × Nat) : Prop := ∃ (C : String) (T : u_T) (N : Nat), vwCl[r.2.2]? = some (C, T, N) ∧ Cond.classLink (zcn r.1) r.2.1 C ∈ zBG
theorem zLw_ok_0 : ∀ r ∈ ([(9, 7, 6), (9, 16, 1), (9, 26, 4), (9, 35, 5), (9, 44, 3), (9, 53, 0), (0, 9, 8), (3, 9, 8), (3, 18, 2), (4, 15, 7), (5, 9, 2), (5, 18, 8)] : List _), zWp r := List.forall_mem_cons.mpr ⟨⟨_, _, _, rfl, zT_1 33 (by decide +kernel) rfl⟩, List.forall_mem_cons.mpr ⟨⟨_, _, _, rfl, zT_1 50 (by decide +kernel) rfl⟩, List.forall_mem_cons.mpr ⟨⟨_, _, _, rfl, zT_1 124 (by decide +kernel) rfl⟩, List.forall_mem_cons.mpr ⟨⟨_, _, _, rfl, zT_1 193 (by decide +kernel) rfl⟩, List.forall_mem_cons.mpr ⟨⟨_, _, _, rfl, zT_2 30 (by decide +kernel) rfl⟩, List.forall_mem_cons.mpr ⟨⟨_, _, _, rfl, zT_2 65 (by decide +kernel) rfl⟩, List.forall_mem_cons.mpr ⟨⟨_, _, _, rfl, zT_2 71 (by decide +kernel) rfl⟩, List.forall_mem_cons.mpr ⟨⟨_, _, _, rfl, zT_2 36 (by decide +kernel) rfl⟩, List.forall_mem_cons.mpr ⟨⟨_, _, _, rfl, zT_2 38 (by decide +kernel) rfl⟩, List.forall_mem_cons.mpr ⟨⟨_, _, _, rfl, zT_1 130 (by decide +kernel) rfl⟩, List.forall_mem_cons.mpr ⟨⟨_, _, _, rfl, zT_1 199 (by decide +kernel) rfl⟩, List.forall_mem_cons.mpr ⟨⟨_, _, _, rfl, zT_1 222 (by decide +kernel) rfl⟩, fun _ h => absurd h List.not_mem_nil⟩⟩⟩⟩⟩⟩⟩⟩⟩⟩⟩⟩
theorem zLw_ok : ∀ r ∈ zLw, zWp r := zLw_ok_0
def zIp (r : Nat × Nat × Nat) : Prop := Cond.constant (zcn r.1) r.2.1 (Int32.ofNat r.2.2) ∈ zBG
def zJp (r : Nat × Nat × Nat) : Prop := Cond.constantLong (zcn r.1) r.2.1 (Int64.ofNat r.2.2) ∈ zBG
theorem zLi_ok_0 : ∀ r ∈ ([(7, 81, 100000), (10, 193, 100000)] : List _), zIp r := List.forall_mem_cons.mpr ⟨zT_3 11 (by decide +kernel) rfl, List.forall_mem_cons.mpr ⟨zT_5 190 (by decide +kernel) rfl, fun _ h => absurd h List.not_mem_nil⟩⟩
theorem zLi_ok : ∀ r ∈ zLi, zIp r := zLi_ok_0
theorem zLl_ok_0 : ∀ r ∈ ([(11, 314, 6148914691236517205), (11, 316, 3689348814741910323), (11, 318, 1085102592571150095)] : List _), zJp r := List.forall_mem_cons.mpr ⟨zT_4 17 (by decide +kernel) rfl, List.forall_mem_cons.mpr ⟨zT_4 18 (by decide +kernel) rfl, List.forall_mem_cons.mpr ⟨zT_4 19 (by decide +kernel) rfl, fun _ h => absurd h List.not_mem_nil⟩⟩⟩
theorem zLl_ok : ∀ r ∈ zLl, zJp r := zLl_ok_0
/-- String constants: how length and charAt are called of them -/
def zTp (r : Nat × Nat × Nat × Nat × Nat) : Prop := r.2.2.1 < 2 ∧ r.2.2.2.2 < 2 ∧ Cond.methodLink (zcn r.1) r.2.2.2.1 (if r.2.2.2.2 = 0 then yJ0_length_8abf5 else yJ0_charAt_5068e) ∈ zBG
theorem zLt_ok_0 : ∀ r ∈ ([(7, 82, 0, 84, 0), (7, 82, 0, 89, 1), (10, 134, 1, 136, 0), (10, 134, 1, 141, 1)] : List _), zTp r := List.forall_mem_cons.mpr ⟨⟨by decide, by decide, zT_2 195 (by decide +kernel) rfl⟩, List.forall_mem_cons.mpr ⟨⟨by decide, by decide, zT_2 205 (by decide +kernel) rfl⟩, List.forall_mem_cons.mpr ⟨⟨by decide, by decide, zT_6 124 (by decide +kernel) rfl⟩, List.forall_mem_cons.mpr ⟨⟨by decide, by decide, zT_6 125 (by decide +kernel) rfl⟩, fun _ h => absurd h List.not_mem_nil⟩⟩⟩⟩
theorem zLt_ok : ∀ r ∈ zLt, zTp r := zLt_ok_0
/-- a class: its fields as the tables lay them, their types by the default values, it can be made -/
def zCp (c : Nat) : Prop := ∃ (C : String) (T : u_T) (N : Nat) (ty : Nat → FieldType), vwCl[c]? = some (C, T, N) ∧ (∀ w ∈ u_ws C T N, w ∈ zBG) ∧ (∀ k, k < N → parseFieldDescriptor (T k).2.2.1 = some (ty k)) ∧ (∀ a, a < N → ∀ b, b < N → a ≠ b → (T a).2.1 ≠ (T b).2.1) ∧ Cond.instantiable C N ∈ zBG ∧ Cond.initialized C ∈ zBG ∧ zcn c = C ∧ (zD c).length = N ∧ ∀ k, k < N → defaultValue (ty k) = vp_V (zD c) k
theorem zC_0 : zCp 0 := ⟨_, _, _, tyX0, rfl, (show ∀ w ∈ ([u_lay RX0 TX0 0, u_lay RX0 TX0 1, u_lay RX0 TX0 2, u_lay RX0 TX0 3, u_lay RX0 TX0 4, u_lay RX0 TX0 5, u_lay RX0 TX0 6, u_lay RX0 TX0 7, u_lay RX0 TX0 8, u_lay RX0 TX0 9, u_lay RX0 TX0 10, u_lay RX0 TX0 11] : List Cond), w ∈ zBG from List.forall_mem_cons.mpr ⟨zT_2 90 (by decide +kernel) (by decide +kernel), List.forall_mem_cons.mpr ⟨zT_2 92 (by decide +kernel) (by decide +kernel), List.forall_mem_cons.mpr ⟨zT_2 94 (by decide +kernel) (by decide +kernel), List.forall_mem_cons.mpr ⟨zT_2 96 (by decide +kernel) (by decide +kernel), List.forall_mem_cons.mpr ⟨zT_2 98 (by decide +kernel) (by decide +kernel), List.forall_mem_cons.mpr ⟨zT_2 100 (by decide +kernel) (by decide +kernel), List.forall_mem_cons.mpr ⟨zT_2 102 (by decide +kernel) (by decide +kernel), List.forall_mem_cons.mpr ⟨zT_2 104 (by decide +kernel) (by decide +kernel), List.forall_mem_cons.mpr ⟨zT_2 106 (by decide +kernel) (by decide +kernel), List.forall_mem_cons.mpr ⟨zT_2 108 (by decide +kernel) (by decide +kernel), List.forall_mem_cons.mpr ⟨zT_2 110 (by decide +kernel) (by decide +kernel), List.forall_mem_cons.mpr ⟨zT_2 112 (by decide +kernel) (by decide +kernel), fun _ h => absurd h List.not_mem_nil⟩⟩⟩⟩⟩⟩⟩⟩⟩⟩⟩⟩), tyX0_ok, nmX0, zT_2 66 (by decide +kernel) rfl, zT_1 10 (by decide +kernel) rfl, rfl, rfl, by decide +kernel⟩
theorem zC_1 : zCp 1 := ⟨_, _, _, tyX1, rfl, (show ∀ w ∈ ([u_lay RX1 TX1 0, u_lay RX1 TX1 1, u_lay RX1 TX1 2, u_lay RX1 TX1 3, u_lay RX1 TX1 4, u_lay RX1 TX1 5, u_lay RX1 TX1 6, u_lay RX1 TX1 7, u_lay RX1 TX1 8, u_lay RX1 TX1 9, u_lay RX1 TX1 10, u_lay RX1 TX1 11, u_lay RX1 TX1 12] : List Cond), w ∈ zBG from List.forall_mem_cons.mpr ⟨zT_1 96 (by decide +kernel) (by decide +kernel), List.forall_mem_cons.mpr ⟨zT_1 98 (by decide +kernel) (by decide +kernel), List.forall_mem_cons.mpr ⟨zT_1 100 (by decide +kernel) (by decide +kernel), List.forall_mem_cons.mpr ⟨zT_1 102 (by decide +kernel) (by decide +kernel), List.forall_mem_cons.mpr ⟨zT_1 104 (by decide +kernel) (by decide +kernel), List.forall_mem_cons.mpr ⟨zT_1 106 (by decide +kernel) (by decide +kernel), List.forall_mem_cons.mpr ⟨zT_1 108 (by decide +kernel) (by decide +kernel), List.forall_mem_cons.mpr ⟨zT_1 110 (by decide +kernel) (by decide +kernel), List.forall_mem_cons.mpr ⟨zT_1 112 (by decide +kernel) (by decide +kernel), List.forall_mem_cons.mpr ⟨zT_1 114 (by decide +kernel) (by decide +kernel), List.forall_mem_cons.mpr ⟨zT_1 116 (by decide +kernel) (by decide +kernel), List.forall_mem_cons.mpr ⟨zT_1 118 (by decide +kernel) (by decide +kernel), List.forall_mem_cons.mpr ⟨zT_1 120 (by decide +kernel) (by decide +kernel), fun _ h => absurd h List.not_mem_nil⟩⟩⟩⟩⟩⟩⟩⟩⟩⟩⟩⟩⟩), tyX1_ok, nmX1, zT_1 51 (by decide +kernel) rfl, zT_1 3 (by decide +kernel) rfl, rfl, rfl, by decide +kernel⟩
theorem zC_2 : zCp 2 := ⟨_, _, _, tyX2, rfl, (show ∀ w ∈ ([u_lay RX2 TX2 0, u_lay RX2 TX2 1, u_lay RX2 TX2 2] : List Cond), w ∈ zBG from List.forall_mem_cons.mpr ⟨zT_1 215 (by decide +kernel) (by decide +kernel), List.forall_mem_cons.mpr ⟨zT_1 217 (by decide +kernel) (by decide +kernel), List.forall_mem_cons.mpr ⟨zT_1 219 (by decide +kernel) (by decide +kernel), fun _ h => absurd h List.not_mem_nil⟩⟩⟩), tyX2_ok, nmX2, zT_1 200 (by decide +kernel) rfl, zT_1 7 (by decide +kernel) rfl, rfl, rfl, by decide +kernel⟩
theorem zC_3 : zCp 3 := ⟨_, _, _, tyX3, rfl, (show ∀ w ∈ ([u_lay RX3 TX3 0, u_lay RX3 TX3 1, u_lay RX3 TX3 2, u_lay RX3 TX3 3, u_lay RX3 TX3 4, u_lay RX3 TX3 5, u_lay RX3 TX3 6] : List Cond), w ∈ zBG from List.forall_mem_cons.mpr ⟨zT_2 50 (by decide +kernel) (by decide +kernel), List.forall_mem_cons.mpr ⟨zT_2 52 (by decide +kernel) (by decide +kernel), List.forall_mem_cons.mpr ⟨zT_2 54 (by decide +kernel) (by decide +kernel), List.forall_mem_cons.mpr ⟨zT_2 56 (by decide +kernel) (by decide +kernel), List.forall_mem_cons.mpr ⟨zT_2 58 (by decide +kernel) (by decide +kernel), List.forall_mem_cons.mpr ⟨zT_2 60 (by decide +kernel) (by decide +kernel), List.forall_mem_cons.mpr ⟨zT_2 62 (by decide +kernel) (by decide +kernel), fun _ h => absurd h List.not_mem_nil⟩⟩⟩⟩⟩⟩⟩), tyX3_ok, nmX3, zT_2 31 (by decide +kernel) rfl, zT_1 9 (by decide +kernel) rfl, rfl, rfl, by decide +kernel⟩
theorem zC_4 : zCp 4 := ⟨_, _, _, tyX4, rfl, (show ∀ w ∈ ([u_lay RX4 TX4 0, u_lay RX4 TX4 1, u_lay RX4 TX4 2, u_lay RX4 TX4 3, u_lay RX4 TX4 4, u_lay RX4 TX4 5, u_lay RX4 TX4 6, u_lay RX4 TX4 7] : List Cond), w ∈ zBG from List.forall_mem_cons.mpr ⟨zT_1 176 (by decide +kernel) (by decide +kernel), List.forall_mem_cons.mpr ⟨zT_1 178 (by decide +kernel) (by decide +kernel), List.forall_mem_cons.mpr ⟨zT_1 180 (by decide +kernel) (by decide +kernel), List.forall_mem_cons.mpr ⟨zT_1 182 (by decide +kernel) (by decide +kernel), List.forall_mem_cons.mpr ⟨zT_1 184 (by decide +kernel) (by decide +kernel), List.forall_mem_cons.mpr ⟨zT_1 186 (by decide +kernel) (by decide +kernel), List.forall_mem_cons.mpr ⟨zT_1 188 (by decide +kernel) (by decide +kernel), List.forall_mem_cons.mpr ⟨zT_1 190 (by decide +kernel) (by decide +kernel), fun _ h => absurd h List.not_mem_nil⟩⟩⟩⟩⟩⟩⟩⟩), tyX4_ok, nmX4, zT_1 125 (by decide +kernel) rfl, zT_1 4 (by decide +kernel) rfl, rfl, rfl, by decide +kernel⟩
theorem zC_5 : zCp 5 := ⟨_, _, _, tyX5, rfl, (show ∀ w ∈ ([u_lay RX5 TX5 0, u_lay RX5 TX5 1, u_lay RX5 TX5 2, u_lay RX5 TX5 3, u_lay RX5 TX5 4] : List Cond), w ∈ zBG from List.forall_mem_cons.mpr ⟨zT_2 19 (by decide +kernel) (by decide +kernel), List.forall_mem_cons.mpr ⟨zT_2 21 (by decide +kernel) (by decide +kernel), List.forall_mem_cons.mpr ⟨zT_2 23 (by decide +kernel) (by decide +kernel), List.forall_mem_cons.mpr ⟨zT_2 25 (by decide +kernel) (by decide +kernel), List.forall_mem_cons.mpr ⟨zT_2 27 (by decide +kernel) (by decide +kernel), fun _ h => absurd h List.not_mem_nil⟩⟩⟩⟩⟩), tyX5_ok, nmX5, zT_1 194 (by decide +kernel) rfl, zT_1 6 (by decide +kernel) rfl, rfl, rfl, by decide +kernel⟩
theorem zC_6 : zCp 6 := ⟨_, _, _, tyX6, rfl, (show ∀ w ∈ ([u_lay RX6 TX6 0, u_lay RX6 TX6 1] : List Cond), w ∈ zBG from List.forall_mem_cons.mpr ⟨zT_1 44 (by decide +kernel) (by decide +kernel), List.forall_mem_cons.mpr ⟨zT_1 46 (by decide +kernel) (by decide +kernel), fun _ h => absurd h List.not_mem_nil⟩⟩), tyX6_ok, nmX6, zT_1 34 (by decide +kernel) rfl, zT_1 2 (by decide +kernel) rfl, rfl, rfl, by decide +kernel⟩
theorem zC_7 : zCp 7 := ⟨_, _, _, tyX7, rfl, (show ∀ w ∈ ([u_lay RX7 TX7 0, u_lay RX7 TX7 1, u_lay RX7 TX7 2, u_lay RX7 TX7 3, u_lay RX7 TX7 4, u_lay RX7 TX7 5, u_lay RX7 TX7 6, u_lay RX7 TX7 7] : List Cond), w ∈ zBG from List.forall_mem_cons.mpr ⟨zT_1 148 (by decide +kernel) (by decide +kernel), List.forall_mem_cons.mpr ⟨zT_1 150 (by decide +kernel) (by decide +kernel), List.forall_mem_cons.mpr ⟨zT_1 152 (by decide +kernel) (by decide +kernel), List.forall_mem_cons.mpr ⟨zT_1 154 (by decide +kernel) (by decide +kernel), List.forall_mem_cons.mpr ⟨zT_1 156 (by decide +kernel) (by decide +kernel), List.forall_mem_cons.mpr ⟨zT_1 158 (by decide +kernel) (by decide +kernel), List.forall_mem_cons.mpr ⟨zT_1 160 (by decide +kernel) (by decide +kernel), List.forall_mem_cons.mpr ⟨zT_1 162 (by decide +kernel) (by decide +kernel), fun _ h => absurd h List.not_mem_nil⟩⟩⟩⟩⟩⟩⟩⟩), tyX7_ok, nmX7, zT_1 131 (by decide +kernel) rfl, zT_1 5 (by decide +kernel) rfl, rfl, rfl, by decide +kernel⟩
theorem zC_8 : zCp 8 := ⟨_, _, _, tyX8, rfl, (show ∀ w ∈ ([u_lay RX8 TX8 0, u_lay RX8 TX8 1, u_lay RX8 TX8 2, u_lay RX8 TX8 3, u_lay RX8 TX8 4, u_lay RX8 TX8 5] : List Cond), w ∈ zBG from List.forall_mem_cons.mpr ⟨zT_1 234 (by decide +kernel) (by decide +kernel), List.forall_mem_cons.mpr ⟨zT_1 236 (by decide +kernel) (by decide +kernel), List.forall_mem_cons.mpr ⟨zT_1 238 (by decide +kernel) (by decide +kernel), List.forall_mem_cons.mpr ⟨zT_2 0 (by decide +kernel) (by decide +kernel), List.forall_mem_cons.mpr ⟨zT_2 2 (by decide +kernel) (by decide +kernel), List.forall_mem_cons.mpr ⟨zT_2 4 (by decide +kernel) (by decide +kernel), fun _ h => absurd h List.not_mem_nil⟩⟩⟩⟩⟩⟩), tyX8_ok, nmX8, zT_1 223 (by decide +kernel) rfl, zT_1 8 (by decide +kernel) rfl, rfl, rfl, by decide +kernel⟩
theorem zC_9 : zCp 9 := ⟨_, _, _, tyX9, rfl, (show ∀ w ∈ ([u_lay RX9 TX9 0, u_lay RX9 TX9 1, u_lay RX9 TX9 2, u_lay RX9 TX9 3, u_lay RX9 TX9 4, u_lay RX9 TX9 5, u_lay RX9 TX9 6] : List Cond), w ∈ zBG from List.forall_mem_cons.mpr ⟨zT_2 122 (by decide +kernel) (by decide +kernel), List.forall_mem_cons.mpr ⟨zT_2 124 (by decide +kernel) (by decide +kernel), List.forall_mem_cons.mpr ⟨zT_2 126 (by decide +kernel) (by decide +kernel), List.forall_mem_cons.mpr ⟨zT_2 128 (by decide +kernel) (by decide +kernel), List.forall_mem_cons.mpr ⟨zT_2 130 (by decide +kernel) (by decide +kernel), List.forall_mem_cons.mpr ⟨zT_2 132 (by decide +kernel) (by decide +kernel), List.forall_mem_cons.mpr ⟨zT_2 134 (by decide +kernel) (by decide +kernel), fun _ h => absurd h List.not_mem_nil⟩⟩⟩⟩⟩⟩⟩), tyX9_ok, nmX9, zT_1 26 (by decide +kernel) rfl, zT_1 1 (by decide +kernel) rfl, rfl, rfl, by decide +kernel⟩
theorem zC_10 : zCp 10 := ⟨_, _, _, tyX10, rfl, (show ∀ w ∈ ([u_lay RX10 TX10 0, u_lay RX10 TX10 1, u_lay RX10 TX10 2, u_lay RX10 TX10 3, u_lay RX10 TX10 4, u_lay RX10 TX10 5, u_lay RX10 TX10 6, u_lay RX10 TX10 7, u_lay RX10 TX10 8, u_lay RX10 TX10 9, u_lay RX10 TX10 10, u_lay RX10 TX10 11, u_lay RX10 TX10 12, u_lay RX10 TX10 13, u_lay RX10 TX10 14, u_lay RX10 TX10 15, u_lay RX10 TX10 16, u_lay RX10 TX10 17, u_lay RX10 TX10 18, u_lay RX10 TX10 19, u_lay RX10 TX10 20, u_lay RX10 TX10 21, u_lay RX10 TX10 22, u_lay RX10 TX10 23, u_lay RX10 TX10 24, u_lay RX10 TX10 25, u_lay RX10 TX10 26, u_lay RX10 TX10 27, u_lay RX10 TX10 28, u_lay RX10 TX10 29, u_lay RX10 TX10 30, u_lay RX10 TX10 31, u_lay RX10 TX10 32, u_lay RX10 TX10 33, u_lay RX10 TX10 34, u_lay RX10 TX10 35, u_lay RX10 TX10 36, u_lay RX10 TX10 37, u_lay RX10 TX10 38, u_lay RX10 TX10 39, u_lay RX10 TX10 40, u_lay RX10 TX10 41, u_lay RX10 TX10 42, u_lay RX10 TX10 43, u_lay RX10 TX10 44] : List Cond), w ∈ zBG from List.forall_mem_cons.mpr ⟨zT_6 4 (by decide +kernel) (by decide +kernel), List.forall_mem_cons.mpr ⟨zT_6 6 (by decide +kernel) (by decide +kernel), List.forall_mem_cons.mpr ⟨zT_6 8 (by decide +kernel) (by decide +kernel), List.forall_mem_cons.mpr ⟨zT_6 10 (by decide +kernel) (by decide +kernel), List.forall_mem_cons.mpr ⟨zT_6 12 (by decide +kernel) (by decide +kernel), List.forall_mem_cons.mpr ⟨zT_6 14 (by decide +kernel) (by decide +kernel), List.forall_mem_cons.mpr ⟨zT_6 16 (by decide +kernel) (by decide +kernel), List.forall_mem_cons.mpr ⟨zT_6 18 (by decide +kernel) (by decide +kernel), List.forall_mem_cons.mpr ⟨zT_6 20 (by decide +kernel) (by decide +kernel), List.forall_mem_cons.mpr ⟨zT_6 22 (by decide +kernel) (by decide +kernel), List.forall_mem_cons.mpr ⟨zT_6 24 (by decide +kernel) (by decide +kernel), List.forall_mem_cons.mpr ⟨zT_6 26 (by decide +kernel) (by decide +kernel), List.forall_mem_cons.mpr ⟨zT_6 28 (by decide +kernel) (by decide +kernel), List.forall_mem_cons.mpr ⟨zT_6 30 (by decide +kernel) (by decide +kernel), List.forall_mem_cons.mpr ⟨zT_6 32 (by decide +kernel) (by decide +kernel), List.forall_mem_cons.mpr ⟨zT_6 34 (by decide +kernel) (by decide +kernel), List.forall_mem_cons.mpr ⟨zT_6 36 (by decide +kernel) (by decide +kernel), List.forall_mem_cons.mpr ⟨zT_6 38 (by decide +kernel) (by decide +kernel), List.forall_mem_cons.mpr ⟨zT_6 40 (by decide +kernel) (by decide +kernel), List.forall_mem_cons.mpr ⟨zT_6 42 (by decide +kernel) (by decide +kernel), List.forall_mem_cons.mpr ⟨zT_6 44 (by decide +kernel) (by decide +kernel), List.forall_mem_cons.mpr ⟨zT_6 46 (by decide +kernel) (by decide +kernel), List.forall_mem_cons.mpr ⟨zT_6 48 (by decide +kernel) (by decide +kernel), List.forall_mem_cons.mpr ⟨zT_6 50 (by decide +kernel) (by decide +kernel), List.forall_mem_cons.mpr ⟨zT_6 52 (by decide +kernel) (by decide +kernel), List.forall_mem_cons.mpr ⟨zT_6 54 (by decide +kernel) (by decide +kernel), List.forall_mem_cons.mpr ⟨zT_6 56 (by decide +kernel) (by decide +kernel), List.forall_mem_cons.mpr ⟨zT_6 58 (by decide +kernel) (by decide +kernel), List.forall_mem_cons.mpr ⟨zT_6 60 (by decide +kernel) (by decide +kernel), List.forall_mem_cons.mpr ⟨zT_6 62 (by decide +kernel) (by decide +kernel), List.forall_mem_cons.mpr ⟨zT_6 64 (by decide +kernel) (by decide +kernel), List.forall_mem_cons.mpr ⟨zT_6 66 (by decide +kernel) (by decide +kernel), List.forall_mem_cons.mpr ⟨zT_6 68 (by decide +kernel) (by decide +kernel), List.forall_mem_cons.mpr ⟨zT_6 70 (by decide +kernel) (by decide +kernel), List.forall_mem_cons.mpr ⟨zT_6 72 (by decide +kernel) (by decide +kernel), List.forall_mem_cons.mpr ⟨zT_6 74 (by decide +kernel) (by decide +kernel), List.forall_mem_cons.mpr ⟨zT_6 76 (by decide +kernel) (by decide +kernel), List.forall_mem_cons.mpr ⟨zT_6 78 (by decide +kernel) (by decide +kernel), List.forall_mem_cons.mpr ⟨zT_6 80 (by decide +kernel) (by decide +kernel), List.forall_mem_cons.mpr ⟨zT_6 82 (by decide +kernel) (by decide +kernel), List.forall_mem_cons.mpr ⟨zT_6 84 (by decide +kernel) (by decide +kernel), List.forall_mem_cons.mpr ⟨zT_6 86 (by decide +kernel) (by decide +kernel), List.forall_mem_cons.mpr ⟨zT_6 88 (by decide +kernel) (by decide +kernel), List.forall_mem_cons.mpr ⟨zT_6 90 (by decide +kernel) (by decide +kernel), List.forall_mem_cons.mpr ⟨zT_6 92 (by decide +kernel) (by decide +kernel), fun _ h => absurd h List.not_mem_nil⟩⟩⟩⟩⟩⟩⟩⟩⟩⟩⟩⟩⟩⟩⟩⟩⟩⟩⟩⟩⟩⟩⟩⟩⟩⟩⟩⟩⟩⟩⟩⟩⟩⟩⟩⟩⟩⟩⟩⟩⟩⟩⟩⟩⟩), tyX10_ok, nmX10, zT_5 181 (by decide +kernel) rfl, zT_1 11 (by decide +kernel) rfl, rfl, rfl, by decide +kernel⟩
/-- a method: its name, its words, how it is called (0 virtual, 1 static, 2 a constructor) -/
def zMf (j : Nat) : Prop := plainName (zM j).1.cls = true ∧ ((zM j).1.cls ≠ "java/lang/invoke/MethodHandle" ∧ (zM j).1.cls ≠ "java/lang/invoke/VarHandle") ∧ (zM j).1.cls = zcn (zM j).2.2.2.2.2.2.2.2.2 ∧ zN j = (zM j).2.2.1 ∧ Cond.code (zM j).1 (zM j).2.1 (zM j).2.2.1 (zM j).2.2.2.1 ∈ zBG ∧ Cond.initialized (zM j).1.cls ∈ zBG
def zQc (k : Nat) : Prop := plainName (zcn k) = true ∧ (zcn k ≠ "java/lang/invoke/MethodHandle" ∧ zcn k ≠ "java/lang/invoke/VarHandle") ∧ Cond.initialized (zcn k) ∈ zBG
theorem zMf_mk {j k : Nat} (p : zQc k) (e0 : (zM j).2.2.2.2.2.2.2.2.2 = k) (e : (zM j).1.cls = zcn k) (h2 : zN j = (zM j).2.2.1) (h3 : Cond.code (zM j).1 (zM j).2.1 (zM j).2.2.1 (zM j).2.2.2.1 ∈ zBG) : zMf j := ⟨by rw [e]; exact p.1, ⟨by rw [e]; exact p.2.1.1, by rw [e]; exact p.2.1.2⟩, by rw [e0]; exact e, h2, h3, by rw [e]; exact p.2.2⟩
theorem zQc_0 : zQc 0 := ⟨by decide +kernel, ⟨by decide +kernel, by decide +kernel⟩, zT_1 10 (by decide +kernel) rfl⟩
theorem zQc_1 : zQc 1 := ⟨by decide +kernel, ⟨by decide +kernel, by decide +kernel⟩, zT_1 3 (by decide +kernel) rfl⟩
theorem zQc_2 : zQc 2 := ⟨by decide +kernel, ⟨by decide +kernel, by decide +kernel⟩, zT_1 7 (by decide +kernel) rfl⟩
theorem zQc_3 : zQc 3 := ⟨by decide +kernel, ⟨by decide +kernel, by decide +kernel⟩, zT_1 9 (by decide +kernel) rfl⟩
theorem zQc_4 : zQc 4 := ⟨by decide +kernel, ⟨by decide +kernel, by decide +kernel⟩, zT_1 4 (by decide +kernel) rfl⟩
theorem zQc_5 : zQc 5 := ⟨by decide +kernel, ⟨by decide +kernel, by decide +kernel⟩, zT_1 6 (by decide +kernel) rfl⟩
theorem zQc_6 : zQc 6 := ⟨by decide +kernel, ⟨by decide +kernel, by decide +kernel⟩, zT_1 2 (by decide +kernel) rfl⟩
theorem zQc_7 : zQc 7 := ⟨by decide +kernel, ⟨by decide +kernel, by decide +kernel⟩, zT_1 5 (by decide +kernel) rfl⟩
theorem zQc_8 : zQc 8 := ⟨by decide +kernel, ⟨by decide +kernel, by decide +kernel⟩, zT_1 8 (by decide +kernel) rfl⟩
theorem zQc_9 : zQc 9 := ⟨by decide +kernel, ⟨by decide +kernel, by decide +kernel⟩, zT_1 1 (by decide +kernel) rfl⟩
theorem zQc_10 : zQc 10 := ⟨by decide +kernel, ⟨by decide +kernel, by decide +kernel⟩, zT_1 11 (by decide +kernel) rfl⟩
def zMv (j : Nat) : Prop := (parseMethodDescriptor (zM j).1.desc).map (fun d => d.parameters.length) = some ((zM j).2.2.2.2.1 - 1) ∧ 0 < (zM j).2.2.2.2.1 ∧ Cond.instanceMethod (zM j).1 ∈ zBG ∧ Cond.selects (zM j).1.cls (zM j).1 (zM j).1 ∈ zBG
def zMs (j : Nat) : Prop := (parseMethodDescriptor (zM j).1.desc).map (fun d => d.parameters.length) = some (zM j).2.2.2.2.1 ∧ Cond.static (zM j).1 ∈ zBG
def zMi (j : Nat) : Prop := (parseMethodDescriptor (zM j).1.desc).map (fun d => d.parameters.length) = some ((zM j).2.2.2.2.1 - 1) ∧ 0 < (zM j).2.2.2.2.1 ∧ Cond.instanceMethod (zM j).1 ∈ zBG ∧ (zM j).1.name = "<init>" ∧ (zM j).2.2.2.1 = none
set_option maxRecDepth 100000 in
theorem zMf_0 : zMf 0 := zMf_mk zQc_0 rfl rfl rfl (zT_2 69 rfl rfl)
theorem zMk_0 : zMi 0 := ⟨by decide +kernel, by decide, zT_2 68 (by decide +kernel) rfl, rfl, rfl⟩
set_option maxRecDepth 100000 in
theorem zMf_1 : zMf 1 := zMf_mk zQc_0 rfl rfl rfl (zT_3 205 rfl rfl)
theorem zMk_1 : zMv 1 := ⟨by decide +kernel, by decide, zT_3 204 (by decide +kernel) rfl, zS 58 (by decide +kernel) rfl⟩
set_option maxRecDepth 100000 in
theorem zMf_2 : zMf 2 := zMf_mk zQc_0 rfl rfl rfl (zT_4 122 rfl rfl)
theorem zMk_2 : zMv 2 := ⟨by decide +kernel, by decide, zT_4 121 (by decide +kernel) rfl, zS 78 (by decide +kernel) rfl⟩
set_option maxRecDepth 100000 in
theorem zMf_3 : zMf 3 := zMf_mk zQc_0 rfl rfl rfl (zT_4 142 rfl rfl)
theorem zMk_3 : zMv 3 := ⟨by decide +kernel, by decide, zT_4 141 (by decide +kernel) rfl, zS 81 (by decide +kernel) rfl⟩
set_option maxRecDepth 100000 in
theorem zMf_4 : zMf 4 := zMf_mk zQc_0 rfl rfl rfl (zT_4 146 rfl rfl)
theorem zMk_4 : zMv 4 := ⟨by decide +kernel, by decide, zT_4 145 (by decide +kernel) rfl, zS 82 (by decide +kernel) rfl⟩
set_option maxRecDepth 100000 in
theorem zMf_5 : zMf 5 := zMf_mk zQc_0 rfl rfl rfl (zT_4 152 rfl rfl)
theorem zMk_5 : zMv 5 := ⟨by decide +kernel, by decide, zT_4 151 (by decide +kernel) rfl, zS 83 (by decide +kernel) rfl⟩
set_option maxRecDepth 100000 in
theorem zMf_6 : zMf 6 := zMf_mk zQc_0 rfl rfl rfl (zT_4 128 rfl rfl)
theorem zMk_6 : zMv 6 := ⟨by decide +kernel, by decide, zT_4 127 (by decide +kernel) rfl, zS 79 (by decide +kernel) rfl⟩
set_option maxRecDepth 100000 in
theorem zMf_7 : zMf 7 := zMf_mk zQc_0 rfl rfl rfl (zT_4 134 rfl rfl)
theorem zMk_7 : zMv 7 := ⟨by decide +kernel, by decide, zT_4 133 (by decide +kernel) rfl, zS 80 (by decide +kernel) rfl⟩
set_option maxRecDepth 100000 in
theorem zMf_8 : zMf 8 := zMf_mk zQc_1 rfl rfl rfl (zT_1 54 rfl rfl)
theorem zMk_8 : zMi 8 := ⟨by decide +kernel, by decide, zT_1 53 (by decide +kernel) rfl, rfl, rfl⟩
set_option maxRecDepth 100000 in
theorem zMf_9 : zMf 9 := zMf_mk zQc_1 rfl rfl rfl (zT_2 156 rfl rfl)
theorem zMk_9 : zMv 9 := ⟨by decide +kernel, by decide, zT_2 155 (by decide +kernel) rfl, zS 2 (by decide +kernel) rfl⟩
set_option maxRecDepth 100000 in
theorem zMf_10 : zMf 10 := zMf_mk zQc_1 rfl rfl rfl (zT_3 103 rfl rfl)
theorem zMk_10 : zMv 10 := ⟨by decide +kernel, by decide, zT_3 102 (by decide +kernel) rfl, zS 34 (by decide +kernel) rfl⟩
set_option maxRecDepth 100000 in
theorem zMf_11 : zMf 11 := zMf_mk zQc_1 rfl rfl rfl (zT_3 71 rfl rfl)
theorem zMk_11 : zMv 11 := ⟨by decide +kernel, by decide, zT_3 70 (by decide +kernel) rfl, zS 26 (by decide +kernel) rfl⟩
set_option maxRecDepth 100000 in
theorem zMf_12 : zMf 12 := zMf_mk zQc_1 rfl rfl rfl (zT_4 81 rfl rfl)
theorem zMk_12 : zMv 12 := ⟨by decide +kernel, by decide, zT_4 80 (by decide +kernel) rfl, zS 72 (by decide +kernel) rfl⟩
set_option maxRecDepth 100000 in
theorem zMf_13 : zMf 13 := zMf_mk zQc_1 rfl rfl rfl (zT_3 39 rfl rfl)
theorem zMk_13 : zMv 13 := ⟨by decide +kernel, by decide, zT_3 38 (by decide +kernel) rfl, zS 18 (by decide +kernel) rfl⟩
set_option maxRecDepth 100000 in
theorem zMf_14 : zMf 14 := zMf_mk zQc_1 rfl rfl rfl (zT_3 43 rfl rfl)
theorem zMk_14 : zMv 14 := ⟨by decide +kernel, by decide, zT_3 42 (by decide +kernel) rfl, zS 19 (by decide +kernel) rfl⟩
set_option maxRecDepth 100000 in
theorem zMf_15 : zMf 15 := zMf_mk zQc_1 rfl rfl rfl (zT_3 59 rfl rfl)
theorem zMk_15 : zMv 15 := ⟨by decide +kernel, by decide, zT_3 58 (by decide +kernel) rfl, zS 23 (by decide +kernel) rfl⟩
set_option maxRecDepth 100000 in
theorem zMf_16 : zMf 16 := zMf_mk zQc_1 rfl rfl rfl (zT_3 91 rfl rfl)
theorem zMk_16 : zMv 16 := ⟨by decide +kernel, by decide, zT_3 90 (by decide +kernel) rfl, zS 31 (by decide +kernel) rfl⟩
set_option maxRecDepth 100000 in
theorem zMf_17 : zMf 17 := zMf_mk zQc_1 rfl rfl rfl (zT_3 67 rfl rfl)
theorem zMk_17 : zMv 17 := ⟨by decide +kernel, by decide, zT_3 66 (by decide +kernel) rfl, zS 25 (by decide +kernel) rfl⟩
set_option maxRecDepth 100000 in
theorem zMf_18 : zMf 18 := zMf_mk zQc_1 rfl rfl rfl (zT_3 63 rfl rfl)
theorem zMk_18 : zMv 18 := ⟨by decide +kernel, by decide, zT_3 62 (by decide +kernel) rfl, zS 24 (by decide +kernel) rfl⟩
set_option maxRecDepth 100000 in
theorem zMf_19 : zMf 19 := zMf_mk zQc_1 rfl rfl rfl (zT_3 99 rfl rfl)
theorem zMk_19 : zMv 19 := ⟨by decide +kernel, by decide, zT_3 98 (by decide +kernel) rfl, zS 33 (by decide +kernel) rfl⟩
set_option maxRecDepth 100000 in
theorem zMf_20 : zMf 20 := zMf_mk zQc_1 rfl rfl rfl (zT_5 86 rfl rfl)
theorem zMk_20 : zMv 20 := ⟨by decide +kernel, by decide, zT_5 85 (by decide +kernel) rfl, zS 105 (by decide +kernel) rfl⟩
set_option maxRecDepth 100000 in
theorem zMf_21 : zMf 21 := zMf_mk zQc_1 rfl rfl rfl (zT_5 82 rfl rfl)
theorem zMk_21 : zMv 21 := ⟨by decide +kernel, by decide, zT_5 81 (by decide +kernel) rfl, zS 104 (by decide +kernel) rfl⟩
set_option maxRecDepth 100000 in
theorem zMf_22 : zMf 22 := zMf_mk zQc_1 rfl rfl rfl (zT_4 213 rfl rfl)
theorem zMk_22 : zMv 22 := ⟨by decide +kernel, by decide, zT_4 212 (by decide +kernel) rfl, zS 91 (by decide +kernel) rfl⟩
set_option maxRecDepth 100000 in
theorem zMf_23 : zMf 23 := zMf_mk zQc_2 rfl rfl rfl (zT_1 203 rfl rfl)
theorem zMk_23 : zMi 23 := ⟨by decide +kernel, by decide, zT_1 202 (by decide +kernel) rfl, rfl, rfl⟩
set_option maxRecDepth 100000 in
theorem zMf_24 : zMf 24 := zMf_mk zQc_2 rfl rfl rfl (zT_3 114 rfl rfl)
theorem zMk_24 : zMv 24 := ⟨by decide +kernel, by decide, zT_3 113 (by decide +kernel) rfl, zS 36 (by decide +kernel) rfl⟩
set_option maxRecDepth 100000 in
theorem zMf_25 : zMf 25 := zMf_mk zQc_2 rfl rfl rfl (zT_3 119 rfl rfl)
theorem zMk_25 : zMv 25 := ⟨by decide +kernel, by decide, zT_3 118 (by decide +kernel) rfl, zS 37 (by decide +kernel) rfl⟩
set_option maxRecDepth 100000 in
theorem zMf_26 : zMf 26 := zMf_mk zQc_2 rfl rfl rfl (zT_4 235 rfl rfl)
theorem zMk_26 : zMv 26 := ⟨by decide +kernel, by decide, zT_4 234 (by decide +kernel) rfl, zS 94 (by decide +kernel) rfl⟩
set_option maxRecDepth 100000 in
theorem zMf_27 : zMf 27 := zMf_mk zQc_2 rfl rfl rfl (zT_3 132 rfl rfl)
theorem zMk_27 : zMv 27 := ⟨by decide +kernel, by decide, zT_3 131 (by decide +kernel) rfl, zS 40 (by decide +kernel) rfl⟩
set_option maxRecDepth 100000 in
theorem zMf_28 : zMf 28 := zMf_mk zQc_3 rfl rfl rfl (zT_2 34 rfl rfl)
theorem zMk_28 : zMi 28 := ⟨by decide +kernel, by decide, zT_2 33 (by decide +kernel) rfl, rfl, rfl⟩
set_option maxRecDepth 100000 in
theorem zMf_29 : zMf 29 := zMf_mk zQc_3 rfl rfl rfl (zT_4 99 rfl rfl)
theorem zMk_29 : zMv 29 := ⟨by decide +kernel, by decide, zT_4 98 (by decide +kernel) rfl, zS 75 (by decide +kernel) rfl⟩
set_option maxRecDepth 100000 in
theorem zMf_30 : zMf 30 := zMf_mk zQc_3 rfl rfl rfl (zT_4 103 rfl rfl)
theorem zMk_30 : zMv 30 := ⟨by decide +kernel, by decide, zT_4 102 (by decide +kernel) rfl, zS 76 (by decide +kernel) rfl⟩
set_option maxRecDepth 100000 in
theorem zMf_31 : zMf 31 := zMf_mk zQc_3 rfl rfl rfl (zT_4 231 rfl rfl)
theorem zMk_31 : zMv 31 := ⟨by decide +kernel, by decide, zT_4 230 (by decide +kernel) rfl, zS 93 (by decide +kernel) rfl⟩
set_option maxRecDepth 100000 in
theorem zMf_32 : zMf 32 := zMf_mk zQc_3 rfl rfl rfl (zT_5 7 rfl rfl)
theorem zMk_32 : zMv 32 := ⟨by decide +kernel, by decide, zT_5 6 (by decide +kernel) rfl, zS 95 (by decide +kernel) rfl⟩
set_option maxRecDepth 100000 in
theorem zMf_33 : zMf 33 := zMf_mk zQc_3 rfl rfl rfl (zT_5 43 rfl rfl)
theorem zMk_33 : zMv 33 := ⟨by decide +kernel, by decide, zT_5 42 (by decide +kernel) rfl, zS 100 (by decide +kernel) rfl⟩
set_option maxRecDepth 100000 in
theorem zMf_34 : zMf 34 := zMf_mk zQc_3 rfl rfl rfl (zT_5 12 rfl rfl)
theorem zMk_34 : zMv 34 := ⟨by decide +kernel, by decide, zT_5 11 (by decide +kernel) rfl, zS 96 (by decide +kernel) rfl⟩
set_option maxRecDepth 100000 in
theorem zMf_35 : zMf 35 := zMf_mk zQc_3 rfl rfl rfl (zT_5 22 rfl rfl)
theorem zMk_35 : zMv 35 := ⟨by decide +kernel, by decide, zT_5 21 (by decide +kernel) rfl, zS 97 (by decide +kernel) rfl⟩
set_option maxRecDepth 100000 in
theorem zMf_36 : zMf 36 := zMf_mk zQc_3 rfl rfl rfl (zT_5 27 rfl rfl)
theorem zMk_36 : zMv 36 := ⟨by decide +kernel, by decide, zT_5 26 (by decide +kernel) rfl, zS 98 (by decide +kernel) rfl⟩
set_option maxRecDepth 100000 in
theorem zMf_37 : zMf 37 := zMf_mk zQc_4 rfl rfl rfl (zT_1 128 rfl rfl)
theorem zMk_37 : zMi 37 := ⟨by decide +kernel, by decide, zT_1 127 (by decide +kernel) rfl, rfl, rfl⟩
set_option maxRecDepth 100000 in
theorem zMf_38 : zMf 38 := zMf_mk zQc_4 rfl rfl rfl (zT_2 163 rfl rfl)
theorem zMk_38 : zMv 38 := ⟨by decide +kernel, by decide, zT_2 162 (by decide +kernel) rfl, zS 3 (by decide +kernel) rfl⟩
set_option maxRecDepth 100000 in
theorem zMf_39 : zMf 39 := zMf_mk zQc_4 rfl rfl rfl (zT_3 19 rfl rfl)
theorem zMk_39 : zMv 39 := ⟨by decide +kernel, by decide, zT_3 18 (by decide +kernel) rfl, zS 13 (by decide +kernel) rfl⟩
set_option maxRecDepth 100000 in
theorem zMf_40 : zMf 40 := zMf_mk zQc_4 rfl rfl rfl (zT_3 23 rfl rfl)
theorem zMk_40 : zMv 40 := ⟨by decide +kernel, by decide, zT_3 22 (by decide +kernel) rfl, zS 14 (by decide +kernel) rfl⟩
set_option maxRecDepth 100000 in
theorem zMf_41 : zMf 41 := zMf_mk zQc_4 rfl rfl rfl (zT_3 27 rfl rfl)
theorem zMk_41 : zMv 41 := ⟨by decide +kernel, by decide, zT_3 26 (by decide +kernel) rfl, zS 15 (by decide +kernel) rfl⟩
set_option maxRecDepth 100000 in
theorem zMf_42 : zMf 42 := zMf_mk zQc_4 rfl rfl rfl (zT_3 31 rfl rfl)
theorem zMk_42 : zMv 42 := ⟨by decide +kernel, by decide, zT_3 30 (by decide +kernel) rfl, zS 16 (by decide +kernel) rfl⟩
set_option maxRecDepth 100000 in
theorem zMf_43 : zMf 43 := zMf_mk zQc_4 rfl rfl rfl (zT_3 47 rfl rfl)
theorem zMk_43 : zMv 43 := ⟨by decide +kernel, by decide, zT_3 46 (by decide +kernel) rfl, zS 20 (by decide +kernel) rfl⟩
set_option maxRecDepth 100000 in
theorem zMf_44 : zMf 44 := zMf_mk zQc_4 rfl rfl rfl (zT_3 75 rfl rfl)
theorem zMk_44 : zMv 44 := ⟨by decide +kernel, by decide, zT_3 74 (by decide +kernel) rfl, zS 27 (by decide +kernel) rfl⟩
set_option maxRecDepth 100000 in
theorem zMf_45 : zMf 45 := zMf_mk zQc_4 rfl rfl rfl (zT_3 79 rfl rfl)
theorem zMk_45 : zMv 45 := ⟨by decide +kernel, by decide, zT_3 78 (by decide +kernel) rfl, zS 28 (by decide +kernel) rfl⟩
set_option maxRecDepth 100000 in
theorem zMf_46 : zMf 46 := zMf_mk zQc_4 rfl rfl rfl (zT_3 83 rfl rfl)
theorem zMk_46 : zMv 46 := ⟨by decide +kernel, by decide, zT_3 82 (by decide +kernel) rfl, zS 29 (by decide +kernel) rfl⟩
set_option maxRecDepth 100000 in
theorem zMf_47 : zMf 47 := zMf_mk zQc_4 rfl rfl rfl (zT_3 87 rfl rfl)
theorem zMk_47 : zMv 47 := ⟨by decide +kernel, by decide, zT_3 86 (by decide +kernel) rfl, zS 30 (by decide +kernel) rfl⟩
set_option maxRecDepth 100000 in
theorem zMf_48 : zMf 48 := zMf_mk zQc_4 rfl rfl rfl (zT_3 55 rfl rfl)
theorem zMk_48 : zMv 48 := ⟨by decide +kernel, by decide, zT_3 54 (by decide +kernel) rfl, zS 22 (by decide +kernel) rfl⟩
set_option maxRecDepth 100000 in
theorem zMf_49 : zMf 49 := zMf_mk zQc_4 rfl rfl rfl (zT_3 51 rfl rfl)
theorem zMk_49 : zMv 49 := ⟨by decide +kernel, by decide, zT_3 50 (by decide +kernel) rfl, zS 21 (by decide +kernel) rfl⟩
set_option maxRecDepth 100000 in
theorem zMf_50 : zMf 50 := zMf_mk zQc_4 rfl rfl rfl (zT_3 35 rfl rfl)
theorem zMk_50 : zMv 50 := ⟨by decide +kernel, by decide, zT_3 34 (by decide +kernel) rfl, zS 17 (by decide +kernel) rfl⟩
set_option maxRecDepth 100000 in
theorem zMf_51 : zMf 51 := zMf_mk zQc_5 rfl rfl rfl (zT_1 197 rfl rfl)
theorem zMk_51 : zMi 51 := ⟨by decide +kernel, by decide, zT_1 196 (by decide +kernel) rfl, rfl, rfl⟩
set_option maxRecDepth 100000 in
theorem zMf_52 : zMf 52 := zMf_mk zQc_5 rfl rfl rfl (zT_3 110 rfl rfl)
theorem zMk_52 : zMv 52 := ⟨by decide +kernel, by decide, zT_3 109 (by decide +kernel) rfl, zS 35 (by decide +kernel) rfl⟩
set_option maxRecDepth 100000 in
theorem zMf_53 : zMf 53 := zMf_mk zQc_5 rfl rfl rfl (zT_3 128 rfl rfl)
theorem zMk_53 : zMv 53 := ⟨by decide +kernel, by decide, zT_3 127 (by decide +kernel) rfl, zS 39 (by decide +kernel) rfl⟩
set_option maxRecDepth 100000 in
theorem zMf_54 : zMf 54 := zMf_mk zQc_5 rfl rfl rfl (zT_3 237 rfl rfl)
theorem zMk_54 : zMv 54 := ⟨by decide +kernel, by decide, zT_3 236 (by decide +kernel) rfl, zS 60 (by decide +kernel) rfl⟩
set_option maxRecDepth 100000 in
theorem zMf_55 : zMf 55 := zMf_mk zQc_5 rfl rfl rfl (zT_3 233 rfl rfl)
theorem zMk_55 : zMv 55 := ⟨by decide +kernel, by decide, zT_3 232 (by decide +kernel) rfl, zS 59 (by decide +kernel) rfl⟩
set_option maxRecDepth 100000 in
theorem zMf_56 : zMf 56 := zMf_mk zQc_5 rfl rfl rfl (zT_4 72 rfl rfl)
theorem zMk_56 : zMv 56 := ⟨by decide +kernel, by decide, zT_4 71 (by decide +kernel) rfl, zS 71 (by decide +kernel) rfl⟩
set_option maxRecDepth 100000 in
theorem zMf_57 : zMf 57 := zMf_mk zQc_5 rfl rfl rfl (zT_4 85 rfl rfl)
theorem zMk_57 : zMv 57 := ⟨by decide +kernel, by decide, zT_4 84 (by decide +kernel) rfl, zS 73 (by decide +kernel) rfl⟩
set_option maxRecDepth 100000 in
theorem zMf_58 : zMf 58 := zMf_mk zQc_5 rfl rfl rfl (zT_4 114 rfl rfl)
theorem zMk_58 : zMv 58 := ⟨by decide +kernel, by decide, zT_4 113 (by decide +kernel) rfl, zS 77 (by decide +kernel) rfl⟩
set_option maxRecDepth 100000 in
theorem zMf_59 : zMf 59 := zMf_mk zQc_5 rfl rfl rfl (zT_4 63 rfl rfl)
theorem zMk_59 : zMv 59 := ⟨by decide +kernel, by decide, zT_4 62 (by decide +kernel) rfl, zS 70 (by decide +kernel) rfl⟩
set_option maxRecDepth 100000 in
theorem zMf_60 : zMf 60 := zMf_mk zQc_5 rfl rfl rfl (zT_4 209 rfl rfl)
theorem zMk_60 : zMv 60 := ⟨by decide +kernel, by decide, zT_4 208 (by decide +kernel) rfl, zS 90 (by decide +kernel) rfl⟩
set_option maxRecDepth 100000 in
theorem zMf_61 : zMf 61 := zMf_mk zQc_5 rfl rfl rfl (zT_4 222 rfl rfl)
theorem zMk_61 : zMv 61 := ⟨by decide +kernel, by decide, zT_4 221 (by decide +kernel) rfl, zS 92 (by decide +kernel) rfl⟩
set_option maxRecDepth 100000 in
theorem zMf_62 : zMf 62 := zMf_mk zQc_5 rfl rfl rfl (zT_5 59 rfl rfl)
theorem zMk_62 : zMv 62 := ⟨by decide +kernel, by decide, zT_5 58 (by decide +kernel) rfl, zS 102 (by decide +kernel) rfl⟩
set_option maxRecDepth 100000 in
theorem zMf_63 : zMf 63 := zMf_mk zQc_5 rfl rfl rfl (zT_5 51 rfl rfl)
theorem zMk_63 : zMv 63 := ⟨by decide +kernel, by decide, zT_5 50 (by decide +kernel) rfl, zS 101 (by decide +kernel) rfl⟩
set_option maxRecDepth 100000 in
theorem zMf_64 : zMf 64 := zMf_mk zQc_5 rfl rfl rfl (zT_4 160 rfl rfl)
theorem zMk_64 : zMv 64 := ⟨by decide +kernel, by decide, zT_4 159 (by decide +kernel) rfl, zS 84 (by decide +kernel) rfl⟩
set_option maxRecDepth 100000 in
theorem zMf_65 : zMf 65 := zMf_mk zQc_5 rfl rfl rfl (zT_4 174 rfl rfl)
theorem zMk_65 : zMv 65 := ⟨by decide +kernel, by decide, zT_4 173 (by decide +kernel) rfl, zS 86 (by decide +kernel) rfl⟩
set_option maxRecDepth 100000 in
theorem zMf_66 : zMf 66 := zMf_mk zQc_5 rfl rfl rfl (zT_4 183 rfl rfl)
theorem zMk_66 : zMv 66 := ⟨by decide +kernel, by decide, zT_4 182 (by decide +kernel) rfl, zS 87 (by decide +kernel) rfl⟩
set_option maxRecDepth 100000 in
theorem zMf_67 : zMf 67 := zMf_mk zQc_5 rfl rfl rfl (zT_4 193 rfl rfl)
theorem zMk_67 : zMv 67 := ⟨by decide +kernel, by decide, zT_4 192 (by decide +kernel) rfl, zS 88 (by decide +kernel) rfl⟩
set_option maxRecDepth 100000 in
theorem zMf_68 : zMf 68 := zMf_mk zQc_5 rfl rfl rfl (zT_5 68 rfl rfl)
theorem zMk_68 : zMv 68 := ⟨by decide +kernel, by decide, zT_5 67 (by decide +kernel) rfl, zS 103 (by decide +kernel) rfl⟩
set_option maxRecDepth 100000 in
theorem zMf_69 : zMf 69 := zMf_mk zQc_6 rfl rfl rfl (zT_1 37 rfl rfl)
theorem zMk_69 : zMi 69 := ⟨by decide +kernel, by decide, zT_1 36 (by decide +kernel) rfl, rfl, rfl⟩
set_option maxRecDepth 100000 in
theorem zMf_70 : zMf 70 := zMf_mk zQc_6 rfl rfl rfl (zT_2 144 rfl rfl)
theorem zMk_70 : zMv 70 := ⟨by decide +kernel, by decide, zT_2 143 (by decide +kernel) rfl, zS 0 (by decide +kernel) rfl⟩
set_option maxRecDepth 100000 in
theorem zMf_71 : zMf 71 := zMf_mk zQc_6 rfl rfl rfl (zT_2 148 rfl rfl)
theorem zMk_71 : zMv 71 := ⟨by decide +kernel, by decide, zT_2 147 (by decide +kernel) rfl, zS 1 (by decide +kernel) rfl⟩
set_option maxRecDepth 100000 in
theorem zMf_72 : zMf 72 := zMf_mk zQc_7 rfl rfl rfl (zT_1 134 rfl rfl)
theorem zMk_72 : zMi 72 := ⟨by decide +kernel, by decide, zT_1 133 (by decide +kernel) rfl, rfl, rfl⟩
set_option maxRecDepth 100000 in
theorem zMf_73 : zMf 73 := zMf_mk zQc_7 rfl rfl rfl (zT_2 167 rfl rfl)
theorem zMk_73 : zMv 73 := ⟨by decide +kernel, by decide, zT_2 166 (by decide +kernel) rfl, zS 4 (by decide +kernel) rfl⟩
set_option maxRecDepth 100000 in
theorem zMf_74 : zMf 74 := zMf_mk zQc_7 rfl rfl rfl (zT_3 15 rfl rfl)
theorem zMk_74 : zMv 74 := ⟨by decide +kernel, by decide, zT_3 14 (by decide +kernel) rfl, zS 12 (by decide +kernel) rfl⟩
set_option maxRecDepth 100000 in
theorem zMf_75 : zMf 75 := zMf_mk zQc_7 rfl rfl rfl (zT_2 177 rfl rfl)
theorem zMk_75 : zMv 75 := ⟨by decide +kernel, by decide, zT_2 176 (by decide +kernel) rfl, zS 5 (by decide +kernel) rfl⟩
set_option maxRecDepth 100000 in
theorem zMf_76 : zMf 76 := zMf_mk zQc_7 rfl rfl rfl (zT_2 181 rfl rfl)
theorem zMk_76 : zMv 76 := ⟨by decide +kernel, by decide, zT_2 180 (by decide +kernel) rfl, zS 6 (by decide +kernel) rfl⟩
set_option maxRecDepth 100000 in
theorem zMf_77 : zMf 77 := zMf_mk zQc_7 rfl rfl rfl (zT_2 189 rfl rfl)
theorem zMk_77 : zMv 77 := ⟨by decide +kernel, by decide, zT_2 188 (by decide +kernel) rfl, zS 8 (by decide +kernel) rfl⟩
set_option maxRecDepth 100000 in
theorem zMf_78 : zMf 78 := zMf_mk zQc_7 rfl rfl rfl (zT_3 10 rfl rfl)
theorem zMk_78 : zMv 78 := ⟨by decide +kernel, by decide, zT_3 9 (by decide +kernel) rfl, zS 11 (by decide +kernel) rfl⟩
set_option maxRecDepth 100000 in
theorem zMf_79 : zMf 79 := zMf_mk zQc_7 rfl rfl rfl (zT_2 185 rfl rfl)
theorem zMk_79 : zMv 79 := ⟨by decide +kernel, by decide, zT_2 184 (by decide +kernel) rfl, zS 7 (by decide +kernel) rfl⟩
set_option maxRecDepth 100000 in
theorem zMf_80 : zMf 80 := zMf_mk zQc_7 rfl rfl rfl (zT_3 6 rfl rfl)
theorem zMk_80 : zMv 80 := ⟨by decide +kernel, by decide, zT_3 5 (by decide +kernel) rfl, zS 10 (by decide +kernel) rfl⟩
set_option maxRecDepth 100000 in
theorem zMf_81 : zMf 81 := zMf_mk zQc_7 rfl rfl rfl (zT_2 193 rfl rfl)
theorem zMk_81 : zMv 81 := ⟨by decide +kernel, by decide, zT_2 192 (by decide +kernel) rfl, zS 9 (by decide +kernel) rfl⟩
set_option maxRecDepth 100000 in
theorem zMf_82 : zMf 82 := zMf_mk zQc_8 rfl rfl rfl (zT_1 226 rfl rfl)
theorem zMk_82 : zMi 82 := ⟨by decide +kernel, by decide, zT_1 225 (by decide +kernel) rfl, rfl, rfl⟩
set_option maxRecDepth 100000 in
theorem zMf_83 : zMf 83 := zMf_mk zQc_8 rfl rfl rfl (zT_3 123 rfl rfl)
theorem zMk_83 : zMv 83 := ⟨by decide +kernel, by decide, zT_3 122 (by decide +kernel) rfl, zS 38 (by decide +kernel) rfl⟩
set_option maxRecDepth 100000 in
theorem zMf_84 : zMf 84 := zMf_mk zQc_8 rfl rfl rfl (zT_4 90 rfl rfl)
theorem zMk_84 : zMv 84 := ⟨by decide +kernel, by decide, zT_4 89 (by decide +kernel) rfl, zS 74 (by decide +kernel) rfl⟩
set_option maxRecDepth 100000 in
theorem zMf_85 : zMf 85 := zMf_mk zQc_8 rfl rfl rfl (zT_3 148 rfl rfl)
theorem zMk_85 : zMv 85 := ⟨by decide +kernel, by decide, zT_3 147 (by decide +kernel) rfl, zS 44 (by decide +kernel) rfl⟩
set_option maxRecDepth 100000 in
theorem zMf_86 : zMf 86 := zMf_mk zQc_8 rfl rfl rfl (zT_3 189 rfl rfl)
theorem zMk_86 : zMv 86 := ⟨by decide +kernel, by decide, zT_3 188 (by decide +kernel) rfl, zS 54 (by decide +kernel) rfl⟩
set_option maxRecDepth 100000 in
theorem zMf_87 : zMf 87 := zMf_mk zQc_8 rfl rfl rfl (zT_3 193 rfl rfl)
theorem zMk_87 : zMv 87 := ⟨by decide +kernel, by decide, zT_3 192 (by decide +kernel) rfl, zS 55 (by decide +kernel) rfl⟩
set_option maxRecDepth 100000 in
theorem zMf_88 : zMf 88 := zMf_mk zQc_8 rfl rfl rfl (zT_3 144 rfl rfl)
theorem zMk_88 : zMv 88 := ⟨by decide +kernel, by decide, zT_3 143 (by decide +kernel) rfl, zS 43 (by decide +kernel) rfl⟩
set_option maxRecDepth 100000 in
theorem zMf_89 : zMf 89 := zMf_mk zQc_8 rfl rfl rfl (zT_3 152 rfl rfl)
theorem zMk_89 : zMv 89 := ⟨by decide +kernel, by decide, zT_3 151 (by decide +kernel) rfl, zS 45 (by decide +kernel) rfl⟩
set_option maxRecDepth 100000 in
theorem zMf_90 : zMf 90 := zMf_mk zQc_8 rfl rfl rfl (zT_3 168 rfl rfl)
theorem zMk_90 : zMv 90 := ⟨by decide +kernel, by decide, zT_3 167 (by decide +kernel) rfl, zS 49 (by decide +kernel) rfl⟩
set_option maxRecDepth 100000 in
theorem zMf_91 : zMf 91 := zMf_mk zQc_8 rfl rfl rfl (zT_4 5 rfl rfl)
theorem zMk_91 : zMv 91 := ⟨by decide +kernel, by decide, zT_4 4 (by decide +kernel) rfl, zS 62 (by decide +kernel) rfl⟩
set_option maxRecDepth 100000 in
theorem zMf_92 : zMf 92 := zMf_mk zQc_8 rfl rfl rfl (zT_4 9 rfl rfl)
theorem zMk_92 : zMv 92 := ⟨by decide +kernel, by decide, zT_4 8 (by decide +kernel) rfl, zS 63 (by decide +kernel) rfl⟩
set_option maxRecDepth 100000 in
theorem zMf_93 : zMf 93 := zMf_mk zQc_8 rfl rfl rfl (zT_3 136 rfl rfl)
theorem zMk_93 : zMv 93 := ⟨by decide +kernel, by decide, zT_3 135 (by decide +kernel) rfl, zS 41 (by decide +kernel) rfl⟩
set_option maxRecDepth 100000 in
theorem zMf_94 : zMf 94 := zMf_mk zQc_8 rfl rfl rfl (zT_3 140 rfl rfl)
theorem zMk_94 : zMv 94 := ⟨by decide +kernel, by decide, zT_3 139 (by decide +kernel) rfl, zS 42 (by decide +kernel) rfl⟩
set_option maxRecDepth 100000 in
theorem zMf_95 : zMf 95 := zMf_mk zQc_8 rfl rfl rfl (zT_3 156 rfl rfl)
theorem zMk_95 : zMv 95 := ⟨by decide +kernel, by decide, zT_3 155 (by decide +kernel) rfl, zS 46 (by decide +kernel) rfl⟩
set_option maxRecDepth 100000 in
theorem zMf_96 : zMf 96 := zMf_mk zQc_8 rfl rfl rfl (zT_3 172 rfl rfl)
theorem zMk_96 : zMv 96 := ⟨by decide +kernel, by decide, zT_3 171 (by decide +kernel) rfl, zS 50 (by decide +kernel) rfl⟩
set_option maxRecDepth 100000 in
theorem zMf_97 : zMf 97 := zMf_mk zQc_8 rfl rfl rfl (zT_3 164 rfl rfl)
theorem zMk_97 : zMv 97 := ⟨by decide +kernel, by decide, zT_3 163 (by decide +kernel) rfl, zS 48 (by decide +kernel) rfl⟩
set_option maxRecDepth 100000 in
theorem zMf_98 : zMf 98 := zMf_mk zQc_8 rfl rfl rfl (zT_3 177 rfl rfl)
theorem zMk_98 : zMv 98 := ⟨by decide +kernel, by decide, zT_3 176 (by decide +kernel) rfl, zS 51 (by decide +kernel) rfl⟩
set_option maxRecDepth 100000 in
theorem zMf_99 : zMf 99 := zMf_mk zQc_8 rfl rfl rfl (zT_3 181 rfl rfl)
theorem zMk_99 : zMv 99 := ⟨by decide +kernel, by decide, zT_3 180 (by decide +kernel) rfl, zS 52 (by decide +kernel) rfl⟩
set_option maxRecDepth 100000 in
theorem zMf_100 : zMf 100 := zMf_mk zQc_8 rfl rfl rfl (zT_3 185 rfl rfl)
theorem zMk_100 : zMv 100 := ⟨by decide +kernel, by decide, zT_3 184 (by decide +kernel) rfl, zS 53 (by decide +kernel) rfl⟩
set_option maxRecDepth 100000 in
theorem zMf_101 : zMf 101 := zMf_mk zQc_8 rfl rfl rfl (zT_3 197 rfl rfl)
theorem zMk_101 : zMv 101 := ⟨by decide +kernel, by decide, zT_3 196 (by decide +kernel) rfl, zS 56 (by decide +kernel) rfl⟩
set_option maxRecDepth 100000 in
theorem zMf_102 : zMf 102 := zMf_mk zQc_8 rfl rfl rfl (zT_3 201 rfl rfl)
theorem zMk_102 : zMv 102 := ⟨by decide +kernel, by decide, zT_3 200 (by decide +kernel) rfl, zS 57 (by decide +kernel) rfl⟩
set_option maxRecDepth 100000 in
theorem zMf_103 : zMf 103 := zMf_mk zQc_8 rfl rfl rfl (zT_3 160 rfl rfl)
theorem zMk_103 : zMv 103 := ⟨by decide +kernel, by decide, zT_3 159 (by decide +kernel) rfl, zS 47 (by decide +kernel) rfl⟩
set_option maxRecDepth 100000 in
theorem zMf_104 : zMf 104 := zMf_mk zQc_8 rfl rfl rfl (zT_4 13 rfl rfl)
theorem zMk_104 : zMv 104 := ⟨by decide +kernel, by decide, zT_4 12 (by decide +kernel) rfl, zS 64 (by decide +kernel) rfl⟩
set_option maxRecDepth 100000 in
theorem zMf_105 : zMf 105 := zMf_mk zQc_8 rfl rfl rfl (zT_4 43 rfl rfl)
theorem zMk_105 : zMv 105 := ⟨by decide +kernel, by decide, zT_4 42 (by decide +kernel) rfl, zS 67 (by decide +kernel) rfl⟩
set_option maxRecDepth 100000 in
theorem zMf_106 : zMf 106 := zMf_mk zQc_8 rfl rfl rfl (zT_5 35 rfl rfl)
theorem zMk_106 : zMv 106 := ⟨by decide +kernel, by decide, zT_5 34 (by decide +kernel) rfl, zS 99 (by decide +kernel) rfl⟩
set_option maxRecDepth 100000 in
theorem zMf_107 : zMf 107 := zMf_mk zQc_8 rfl rfl rfl (zT_4 166 rfl rfl)
theorem zMk_107 : zMv 107 := ⟨by decide +kernel, by decide, zT_4 165 (by decide +kernel) rfl, zS 85 (by decide +kernel) rfl⟩
set_option maxRecDepth 100000 in
theorem zMf_108 : zMf 108 := zMf_mk zQc_8 rfl rfl rfl (zT_4 201 rfl rfl)
theorem zMk_108 : zMv 108 := ⟨by decide +kernel, by decide, zT_4 200 (by decide +kernel) rfl, zS 89 (by decide +kernel) rfl⟩
set_option maxRecDepth 100000 in
theorem zMf_109 : zMf 109 := zMf_mk zQc_8 rfl rfl rfl (zT_4 1 rfl rfl)
theorem zMk_109 : zMv 109 := ⟨by decide +kernel, by decide, zT_4 0 (by decide +kernel) rfl, zS 61 (by decide +kernel) rfl⟩
set_option maxRecDepth 100000 in
theorem zMf_110 : zMf 110 := zMf_mk zQc_8 rfl rfl rfl (zT_4 51 rfl rfl)
theorem zMk_110 : zMv 110 := ⟨by decide +kernel, by decide, zT_4 50 (by decide +kernel) rfl, zS 68 (by decide +kernel) rfl⟩
set_option maxRecDepth 100000 in
theorem zMf_111 : zMf 111 := zMf_mk zQc_8 rfl rfl rfl (zT_4 55 rfl rfl)
theorem zMk_111 : zMv 111 := ⟨by decide +kernel, by decide, zT_4 54 (by decide +kernel) rfl, zS 69 (by decide +kernel) rfl⟩
set_option maxRecDepth 100000 in
theorem zMf_112 : zMf 112 := zMf_mk zQc_9 rfl rfl rfl (zT_1 29 rfl rfl)
theorem zMk_112 : zMi 112 := ⟨by decide +kernel, by decide, zT_1 28 (by decide +kernel) rfl, rfl, rfl⟩
set_option maxRecDepth 100000 in
theorem zMf_113 : zMf 113 := zMf_mk zQc_9 rfl rfl rfl (zT_2 140 rfl rfl)
theorem zMk_113 : zMv 113 := ⟨by decide +kernel, by decide, zT_2 138 (by decide +kernel) rfl, zT_2 139 (by decide +kernel) rfl⟩
set_option maxRecDepth 100000 in
theorem zMf_114 : zMf 114 := zMf_mk zQc_9 rfl rfl rfl (zT_2 152 rfl rfl)
theorem zMk_114 : zMv 114 := ⟨by decide +kernel, by decide, zT_2 150 (by decide +kernel) rfl, zT_2 151 (by decide +kernel) rfl⟩
set_option maxRecDepth 100000 in
theorem zMf_115 : zMf 115 := zMf_mk zQc_9 rfl rfl rfl (zT_3 209 rfl rfl)
theorem zMk_115 : zMv 115 := ⟨by decide +kernel, by decide, zT_3 207 (by decide +kernel) rfl, zT_3 208 (by decide +kernel) rfl⟩
set_option maxRecDepth 100000 in
theorem zMf_116 : zMf 116 := zMf_mk zQc_9 rfl rfl rfl (zT_3 95 rfl rfl)
theorem zMk_116 : zMv 116 := ⟨by decide +kernel, by decide, zT_3 94 (by decide +kernel) rfl, zS 32 (by decide +kernel) rfl⟩
set_option maxRecDepth 100000 in
theorem zMf_117 : zMf 117 := zMf_mk zQc_9 rfl rfl rfl (zT_3 213 rfl rfl)
theorem zMk_117 : zMv 117 := ⟨by decide +kernel, by decide, zT_3 211 (by decide +kernel) rfl, zT_3 212 (by decide +kernel) rfl⟩
set_option maxRecDepth 100000 in
theorem zMf_118 : zMf 118 := zMf_mk zQc_9 rfl rfl rfl (zT_3 217 rfl rfl)
theorem zMk_118 : zMv 118 := ⟨by decide +kernel, by decide, zT_3 215 (by decide +kernel) rfl, zT_3 216 (by decide +kernel) rfl⟩
set_option maxRecDepth 100000 in
theorem zMf_119 : zMf 119 := zMf_mk zQc_9 rfl rfl rfl (zT_5 95 rfl rfl)
theorem zMk_119 : zMv 119 := ⟨by decide +kernel, by decide, zT_5 93 (by decide +kernel) rfl, zT_5 94 (by decide +kernel) rfl⟩
set_option maxRecDepth 100000 in
theorem zMf_120 : zMf 120 := zMf_mk zQc_9 rfl rfl rfl (zT_3 223 rfl rfl)
theorem zMk_120 : zMv 120 := ⟨by decide +kernel, by decide, zT_3 221 (by decide +kernel) rfl, zT_3 222 (by decide +kernel) rfl⟩
set_option maxRecDepth 100000 in
theorem zMf_121 : zMf 121 := zMf_mk zQc_9 rfl rfl rfl (zT_4 23 rfl rfl)
theorem zMk_121 : zMv 121 := ⟨by decide +kernel, by decide, zT_4 21 (by decide +kernel) rfl, zT_4 22 (by decide +kernel) rfl⟩
set_option maxRecDepth 100000 in
theorem zMf_122 : zMf 122 := zMf_mk zQc_9 rfl rfl rfl (zT_4 31 rfl rfl)
theorem zMk_122 : zMv 122 := ⟨by decide +kernel, by decide, zT_4 29 (by decide +kernel) rfl, zT_4 30 (by decide +kernel) rfl⟩
set_option maxRecDepth 100000 in
theorem zMf_123 : zMf 123 := zMf_mk zQc_9 rfl rfl rfl (zT_4 47 rfl rfl)
theorem zMk_123 : zMv 123 := ⟨by decide +kernel, by decide, zT_4 45 (by decide +kernel) rfl, zT_4 46 (by decide +kernel) rfl⟩
set_option maxRecDepth 100000 in
theorem zMf_124 : zMf 124 := zMf_mk zQc_9 rfl rfl rfl (zT_4 59 rfl rfl)
theorem zMk_124 : zMv 124 := ⟨by decide +kernel, by decide, zT_4 57 (by decide +kernel) rfl, zT_4 58 (by decide +kernel) rfl⟩
set_option maxRecDepth 100000 in
theorem zMf_125 : zMf 125 := zMf_mk zQc_9 rfl rfl rfl (zT_4 68 rfl rfl)
theorem zMk_125 : zMv 125 := ⟨by decide +kernel, by decide, zT_4 66 (by decide +kernel) rfl, zT_4 67 (by decide +kernel) rfl⟩
set_option maxRecDepth 100000 in
theorem zMf_126 : zMf 126 := zMf_mk zQc_9 rfl rfl rfl (zT_4 77 rfl rfl)
theorem zMk_126 : zMv 126 := ⟨by decide +kernel, by decide, zT_4 75 (by decide +kernel) rfl, zT_4 76 (by decide +kernel) rfl⟩
set_option maxRecDepth 100000 in
theorem zMf_127 : zMf 127 := zMf_mk zQc_9 rfl rfl rfl (zT_4 95 rfl rfl)
theorem zMk_127 : zMv 127 := ⟨by decide +kernel, by decide, zT_4 93 (by decide +kernel) rfl, zT_4 94 (by decide +kernel) rfl⟩
set_option maxRecDepth 100000 in
theorem zMf_128 : zMf 128 := zMf_mk zQc_9 rfl rfl rfl (zT_4 110 rfl rfl)
theorem zMk_128 : zMv 128 := ⟨by decide +kernel, by decide, zT_4 108 (by decide +kernel) rfl, zT_4 109 (by decide +kernel) rfl⟩
set_option maxRecDepth 100000 in
theorem zMf_129 : zMf 129 := zMf_mk zQc_9 rfl rfl rfl (zT_4 118 rfl rfl)
theorem zMk_129 : zMv 129 := ⟨by decide +kernel, by decide, zT_4 116 (by decide +kernel) rfl, zT_4 117 (by decide +kernel) rfl⟩
set_option maxRecDepth 100000 in
theorem zMf_130 : zMf 130 := zMf_mk zQc_9 rfl rfl rfl (zT_4 138 rfl rfl)
theorem zMk_130 : zMv 130 := ⟨by decide +kernel, by decide, zT_4 136 (by decide +kernel) rfl, zT_4 137 (by decide +kernel) rfl⟩
set_option maxRecDepth 100000 in
theorem zMf_131 : zMf 131 := zMf_mk zQc_9 rfl rfl rfl (zT_4 156 rfl rfl)
theorem zMk_131 : zMv 131 := ⟨by decide +kernel, by decide, zT_4 154 (by decide +kernel) rfl, zT_4 155 (by decide +kernel) rfl⟩
set_option maxRecDepth 100000 in
theorem zMf_132 : zMf 132 := zMf_mk zQc_9 rfl rfl rfl (zT_4 170 rfl rfl)
theorem zMk_132 : zMv 132 := ⟨by decide +kernel, by decide, zT_4 168 (by decide +kernel) rfl, zT_4 169 (by decide +kernel) rfl⟩
set_option maxRecDepth 100000 in
theorem zMf_133 : zMf 133 := zMf_mk zQc_9 rfl rfl rfl (zT_4 179 rfl rfl)
theorem zMk_133 : zMv 133 := ⟨by decide +kernel, by decide, zT_4 177 (by decide +kernel) rfl, zT_4 178 (by decide +kernel) rfl⟩
set_option maxRecDepth 100000 in
theorem zMf_134 : zMf 134 := zMf_mk zQc_9 rfl rfl rfl (zT_4 189 rfl rfl)
theorem zMk_134 : zMv 134 := ⟨by decide +kernel, by decide, zT_4 187 (by decide +kernel) rfl, zT_4 188 (by decide +kernel) rfl⟩
set_option maxRecDepth 100000 in
theorem zMf_135 : zMf 135 := zMf_mk zQc_9 rfl rfl rfl (zT_4 197 rfl rfl)
theorem zMk_135 : zMv 135 := ⟨by decide +kernel, by decide, zT_4 195 (by decide +kernel) rfl, zT_4 196 (by decide +kernel) rfl⟩
set_option maxRecDepth 100000 in
theorem zMf_136 : zMf 136 := zMf_mk zQc_9 rfl rfl rfl (zT_4 205 rfl rfl)
theorem zMk_136 : zMv 136 := ⟨by decide +kernel, by decide, zT_4 203 (by decide +kernel) rfl, zT_4 204 (by decide +kernel) rfl⟩
set_option maxRecDepth 100000 in
theorem zMf_137 : zMf 137 := zMf_mk zQc_9 rfl rfl rfl (zT_4 218 rfl rfl)
theorem zMk_137 : zMv 137 := ⟨by decide +kernel, by decide, zT_4 216 (by decide +kernel) rfl, zT_4 217 (by decide +kernel) rfl⟩
set_option maxRecDepth 100000 in
theorem zMf_138 : zMf 138 := zMf_mk zQc_9 rfl rfl rfl (zT_4 227 rfl rfl)
theorem zMk_138 : zMv 138 := ⟨by decide +kernel, by decide, zT_4 225 (by decide +kernel) rfl, zT_4 226 (by decide +kernel) rfl⟩
set_option maxRecDepth 100000 in
theorem zMf_139 : zMf 139 := zMf_mk zQc_9 rfl rfl rfl (zT_4 239 rfl rfl)
theorem zMk_139 : zMv 139 := ⟨by decide +kernel, by decide, zT_4 237 (by decide +kernel) rfl, zT_4 238 (by decide +kernel) rfl⟩
set_option maxRecDepth 100000 in
theorem zMf_140 : zMf 140 := zMf_mk zQc_9 rfl rfl rfl (zT_5 3 rfl rfl)
theorem zMk_140 : zMv 140 := ⟨by decide +kernel, by decide, zT_5 1 (by decide +kernel) rfl, zT_5 2 (by decide +kernel) rfl⟩
set_option maxRecDepth 100000 in
theorem zMf_141 : zMf 141 := zMf_mk zQc_9 rfl rfl rfl (zT_5 18 rfl rfl)
theorem zMk_141 : zMv 141 := ⟨by decide +kernel, by decide, zT_5 16 (by decide +kernel) rfl, zT_5 17 (by decide +kernel) rfl⟩
set_option maxRecDepth 100000 in
theorem zMf_142 : zMf 142 := zMf_mk zQc_9 rfl rfl rfl (zT_5 31 rfl rfl)
theorem zMk_142 : zMv 142 := ⟨by decide +kernel, by decide, zT_5 29 (by decide +kernel) rfl, zT_5 30 (by decide +kernel) rfl⟩
set_option maxRecDepth 100000 in
theorem zMf_143 : zMf 143 := zMf_mk zQc_9 rfl rfl rfl (zT_5 39 rfl rfl)
theorem zMk_143 : zMv 143 := ⟨by decide +kernel, by decide, zT_5 37 (by decide +kernel) rfl, zT_5 38 (by decide +kernel) rfl⟩
set_option maxRecDepth 100000 in
theorem zMf_144 : zMf 144 := zMf_mk zQc_9 rfl rfl rfl (zT_5 47 rfl rfl)
theorem zMk_144 : zMv 144 := ⟨by decide +kernel, by decide, zT_5 45 (by decide +kernel) rfl, zT_5 46 (by decide +kernel) rfl⟩
set_option maxRecDepth 100000 in
theorem zMf_145 : zMf 145 := zMf_mk zQc_9 rfl rfl rfl (zT_5 55 rfl rfl)
theorem zMk_145 : zMv 145 := ⟨by decide +kernel, by decide, zT_5 53 (by decide +kernel) rfl, zT_5 54 (by decide +kernel) rfl⟩
set_option maxRecDepth 100000 in
theorem zMf_146 : zMf 146 := zMf_mk zQc_9 rfl rfl rfl (zT_5 64 rfl rfl)
theorem zMk_146 : zMv 146 := ⟨by decide +kernel, by decide, zT_5 62 (by decide +kernel) rfl, zT_5 63 (by decide +kernel) rfl⟩
set_option maxRecDepth 100000 in
theorem zMf_147 : zMf 147 := zMf_mk zQc_9 rfl rfl rfl (zT_5 72 rfl rfl)
theorem zMk_147 : zMv 147 := ⟨by decide +kernel, by decide, zT_5 70 (by decide +kernel) rfl, zT_5 71 (by decide +kernel) rfl⟩
set_option maxRecDepth 100000 in
theorem zMf_148 : zMf 148 := zMf_mk zQc_9 rfl rfl rfl (zT_5 78 rfl rfl)
theorem zMk_148 : zMv 148 := ⟨by decide +kernel, by decide, zT_5 76 (by decide +kernel) rfl, zT_5 77 (by decide +kernel) rfl⟩
set_option maxRecDepth 100000 in
theorem zMf_149 : zMf 149 := zMf_mk zQc_9 rfl rfl rfl (zT_3 226 rfl rfl)
theorem zMk_149 : zMs 149 := ⟨by decide +kernel, zT_3 225 (by decide +kernel) rfl⟩
set_option maxRecDepth 100000 in
theorem zMf_150 : zMf 150 := zMf_mk zQc_9 rfl rfl rfl (zT_3 229 rfl rfl)
theorem zMk_150 : zMs 150 := ⟨by decide +kernel, zT_3 228 (by decide +kernel) rfl⟩
set_option maxRecDepth 100000 in
theorem zMf_151 : zMf 151 := zMf_mk zQc_9 rfl rfl rfl (zT_4 39 rfl rfl)
theorem zMk_151 : zMv 151 := ⟨by decide +kernel, by decide, zT_4 38 (by decide +kernel) rfl, zS 66 (by decide +kernel) rfl⟩
set_option maxRecDepth 100000 in
theorem zMf_152 : zMf 152 := zMf_mk zQc_9 rfl rfl rfl (zT_4 35 rfl rfl)
theorem zMk_152 : zMv 152 := ⟨by decide +kernel, by decide, zT_4 34 (by decide +kernel) rfl, zS 65 (by decide +kernel) rfl⟩
set_option maxRecDepth 100000 in
theorem zMf_153 : zMf 153 := zMf_mk zQc_9 rfl rfl rfl (zT_4 27 rfl rfl)
theorem zMk_153 : zMs 153 := ⟨by decide +kernel, zT_4 26 (by decide +kernel) rfl⟩
set_option maxRecDepth 100000 in
theorem zMf_154 : zMf 154 := zMf_mk zQc_10 rfl rfl rfl (zT_5 184 rfl rfl)
theorem zMk_154 : zMi 154 := ⟨by decide +kernel, by decide, zT_5 183 (by decide +kernel) rfl, rfl, rfl⟩
set_option maxRecDepth 100000 in
theorem zMf_155 : zMf 155 := zMf_mk zQc_10 rfl rfl rfl (zT_6 99 rfl rfl)
theorem zMk_155 : zMv 155 := ⟨by decide +kernel, by decide, zT_6 97 (by decide +kernel) rfl, zT_6 98 (by decide +kernel) rfl⟩
set_option maxRecDepth 100000 in
theorem zMf_156 : zMf 156 := zMf_mk zQc_10 rfl rfl rfl (zT_6 115 rfl rfl)
theorem zMk_156 : zMv 156 := ⟨by decide +kernel, by decide, zT_6 114 (by decide +kernel) rfl, zS 112 (by decide +kernel) rfl⟩
set_option maxRecDepth 100000 in
theorem zMf_157 : zMf 157 := zMf_mk zQc_10 rfl rfl rfl (zT_6 118 rfl rfl)
theorem zMk_157 : zMs 157 := ⟨by decide +kernel, zT_6 117 (by decide +kernel) rfl⟩
set_option maxRecDepth 100000 in
theorem zMf_158 : zMf 158 := zMf_mk zQc_10 rfl rfl rfl (zT_6 128 rfl rfl)
theorem zMk_158 : zMs 158 := ⟨by decide +kernel, zT_6 127 (by decide +kernel) rfl⟩
set_option maxRecDepth 100000 in
theorem zMf_159 : zMf 159 := zMf_mk zQc_10 rfl rfl rfl (zT_6 111 rfl rfl)
theorem zMk_159 : zMv 159 := ⟨by decide +kernel, by decide, zT_6 110 (by decide +kernel) rfl, zS 111 (by decide +kernel) rfl⟩
set_option maxRecDepth 100000 in
theorem zMf_160 : zMf 160 := zMf_mk zQc_10 rfl rfl rfl (zT_6 122 rfl rfl)
theorem zMk_160 : zMv 160 := ⟨by decide +kernel, by decide, zT_6 121 (by decide +kernel) rfl, zS 113 (by decide +kernel) rfl⟩
set_option maxRecDepth 100000 in
theorem zMf_161 : zMf 161 := zMf_mk zQc_10 rfl rfl rfl (zT_6 140 rfl rfl)
theorem zMk_161 : zMv 161 := ⟨by decide +kernel, by decide, zT_6 139 (by decide +kernel) rfl, zS 116 (by decide +kernel) rfl⟩
set_option maxRecDepth 100000 in
theorem zMf_162 : zMf 162 := zMf_mk zQc_10 rfl rfl rfl (zT_6 144 rfl rfl)
theorem zMk_162 : zMv 162 := ⟨by decide +kernel, by decide, zT_6 143 (by decide +kernel) rfl, zS 117 (by decide +kernel) rfl⟩
set_option maxRecDepth 100000 in
theorem zMf_163 : zMf 163 := zMf_mk zQc_10 rfl rfl rfl (zT_6 148 rfl rfl)
theorem zMk_163 : zMv 163 := ⟨by decide +kernel, by decide, zT_6 147 (by decide +kernel) rfl, zS 118 (by decide +kernel) rfl⟩
set_option maxRecDepth 100000 in
theorem zMf_164 : zMf 164 := zMf_mk zQc_10 rfl rfl rfl (zT_6 160 rfl rfl)
theorem zMk_164 : zMv 164 := ⟨by decide +kernel, by decide, zT_6 159 (by decide +kernel) rfl, zS 121 (by decide +kernel) rfl⟩
set_option maxRecDepth 100000 in
theorem zMf_165 : zMf 165 := zMf_mk zQc_10 rfl rfl rfl (zT_6 156 rfl rfl)
theorem zMk_165 : zMv 165 := ⟨by decide +kernel, by decide, zT_6 155 (by decide +kernel) rfl, zS 120 (by decide +kernel) rfl⟩
set_option maxRecDepth 100000 in
theorem zMf_166 : zMf 166 := zMf_mk zQc_10 rfl rfl rfl (zT_6 164 rfl rfl)
theorem zMk_166 : zMv 166 := ⟨by decide +kernel, by decide, zT_6 163 (by decide +kernel) rfl, zS 122 (by decide +kernel) rfl⟩
set_option maxRecDepth 100000 in
theorem zMf_167 : zMf 167 := zMf_mk zQc_10 rfl rfl rfl (zT_6 168 rfl rfl)
theorem zMk_167 : zMv 167 := ⟨by decide +kernel, by decide, zT_6 167 (by decide +kernel) rfl, zS 123 (by decide +kernel) rfl⟩
set_option maxRecDepth 100000 in
theorem zMf_168 : zMf 168 := zMf_mk zQc_10 rfl rfl rfl (zT_6 172 rfl rfl)
theorem zMk_168 : zMv 168 := ⟨by decide +kernel, by decide, zT_6 171 (by decide +kernel) rfl, zS 124 (by decide +kernel) rfl⟩
set_option maxRecDepth 100000 in
theorem zMf_169 : zMf 169 := zMf_mk zQc_10 rfl rfl rfl (zT_6 152 rfl rfl)
theorem zMk_169 : zMv 169 := ⟨by decide +kernel, by decide, zT_6 151 (by decide +kernel) rfl, zS 119 (by decide +kernel) rfl⟩
set_option maxRecDepth 100000 in
theorem zMf_170 : zMf 170 := zMf_mk zQc_10 rfl rfl rfl (zT_6 136 rfl rfl)
theorem zMk_170 : zMv 170 := ⟨by decide +kernel, by decide, zT_6 135 (by decide +kernel) rfl, zS 115 (by decide +kernel) rfl⟩
set_option maxRecDepth 100000 in
theorem zMf_171 : zMf 171 := zMf_mk zQc_10 rfl rfl rfl (zT_6 132 rfl rfl)
theorem zMk_171 : zMv 171 := ⟨by decide +kernel, by decide, zT_6 131 (by decide +kernel) rfl, zS 114 (by decide +kernel) rfl⟩
set_option maxRecDepth 100000 in
theorem zMf_172 : zMf 172 := zMf_mk zQc_10 rfl rfl rfl (zT_5 189 rfl rfl)
theorem zMk_172 : zMv 172 := ⟨by decide +kernel, by decide, zT_5 188 (by decide +kernel) rfl, zS 107 (by decide +kernel) rfl⟩
set_option maxRecDepth 100000 in
theorem zMf_173 : zMf 173 := zMf_mk zQc_10 rfl rfl rfl (zT_6 107 rfl rfl)
theorem zMk_173 : zMv 173 := ⟨by decide +kernel, by decide, zT_6 106 (by decide +kernel) rfl, zS 110 (by decide +kernel) rfl⟩
set_option maxRecDepth 100000 in
theorem zMf_174 : zMf 174 := zMf_mk zQc_10 rfl rfl rfl (zT_5 194 rfl rfl)
theorem zMk_174 : zMv 174 := ⟨by decide +kernel, by decide, zT_5 193 (by decide +kernel) rfl, zS 108 (by decide +kernel) rfl⟩
set_option maxRecDepth 100000 in
theorem zMf_175 : zMf 175 := zMf_mk zQc_10 rfl rfl rfl (zT_6 103 rfl rfl)
theorem zMk_175 : zMv 175 := ⟨by decide +kernel, by decide, zT_6 101 (by decide +kernel) rfl, zT_6 102 (by decide +kernel) rfl⟩
set_option maxRecDepth 100000 in
theorem zMf_176 : zMf 176 := zMf_mk zQc_10 rfl rfl rfl (zT_6 176 rfl rfl)
theorem zMk_176 : zMv 176 := ⟨by decide +kernel, by decide, zT_6 174 (by decide +kernel) rfl, zT_6 175 (by decide +kernel) rfl⟩
set_option maxRecDepth 100000 in
theorem zMf_177 : zMf 177 := zMf_mk zQc_10 rfl rfl rfl (zT_6 180 rfl rfl)
theorem zMk_177 : zMv 177 := ⟨by decide +kernel, by decide, zT_6 178 (by decide +kernel) rfl, zT_6 179 (by decide +kernel) rfl⟩
set_option maxRecDepth 100000 in
theorem zMf_178 : zMf 178 := zMf_mk zQc_10 rfl rfl rfl (zT_5 198 rfl rfl)
theorem zMk_178 : zMv 178 := ⟨by decide +kernel, by decide, zT_5 197 (by decide +kernel) rfl, zS 109 (by decide +kernel) rfl⟩
set_option maxRecDepth 100000 in
theorem zMf_179 : zMf 179 := zMf_mk zQc_10 rfl rfl rfl (zT_6 184 rfl rfl)
theorem zMk_179 : zMv 179 := ⟨by decide +kernel, by decide, zT_6 182 (by decide +kernel) rfl, zT_6 183 (by decide +kernel) rfl⟩
set_option maxRecDepth 100000 in
theorem zMf_180 : zMf 180 := zMf_mk zQc_10 rfl rfl rfl (zT_6 196 rfl rfl)
theorem zMk_180 : zMv 180 := ⟨by decide +kernel, by decide, zT_6 195 (by decide +kernel) rfl, zS 126 (by decide +kernel) rfl⟩
set_option maxRecDepth 100000 in
theorem zMf_181 : zMf 181 := zMf_mk zQc_10 rfl rfl rfl (zT_6 208 rfl rfl)
theorem zMk_181 : zMv 181 := ⟨by decide +kernel, by decide, zT_6 207 (by decide +kernel) rfl, zS 129 (by decide +kernel) rfl⟩
set_option maxRecDepth 100000 in
theorem zMf_182 : zMf 182 := zMf_mk zQc_10 rfl rfl rfl (zT_6 204 rfl rfl)
theorem zMk_182 : zMv 182 := ⟨by decide +kernel, by decide, zT_6 203 (by decide +kernel) rfl, zS 128 (by decide +kernel) rfl⟩
set_option maxRecDepth 100000 in
theorem zMf_183 : zMf 183 := zMf_mk zQc_10 rfl rfl rfl (zT_6 220 rfl rfl)
theorem zMk_183 : zMv 183 := ⟨by decide +kernel, by decide, zT_6 219 (by decide +kernel) rfl, zS 132 (by decide +kernel) rfl⟩
set_option maxRecDepth 100000 in
theorem zMf_184 : zMf 184 := zMf_mk zQc_10 rfl rfl rfl (zT_6 216 rfl rfl)
theorem zMk_184 : zMv 184 := ⟨by decide +kernel, by decide, zT_6 215 (by decide +kernel) rfl, zS 131 (by decide +kernel) rfl⟩
set_option maxRecDepth 100000 in
theorem zMf_185 : zMf 185 := zMf_mk zQc_10 rfl rfl rfl (zT_6 232 rfl rfl)
theorem zMk_185 : zMv 185 := ⟨by decide +kernel, by decide, zT_6 231 (by decide +kernel) rfl, zS 135 (by decide +kernel) rfl⟩
set_option maxRecDepth 100000 in
theorem zMf_186 : zMf 186 := zMf_mk zQc_10 rfl rfl rfl (zT_7 12 rfl rfl)
theorem zMk_186 : zMv 186 := ⟨by decide +kernel, by decide, zT_7 11 (by decide +kernel) rfl, zS 140 (by decide +kernel) rfl⟩
set_option maxRecDepth 100000 in
theorem zMf_187 : zMf 187 := zMf_mk zQc_10 rfl rfl rfl (zT_7 8 rfl rfl)
theorem zMk_187 : zMv 187 := ⟨by decide +kernel, by decide, zT_7 7 (by decide +kernel) rfl, zS 139 (by decide +kernel) rfl⟩
set_option maxRecDepth 100000 in
theorem zMf_188 : zMf 188 := zMf_mk zQc_10 rfl rfl rfl (zT_6 236 rfl rfl)
theorem zMk_188 : zMv 188 := ⟨by decide +kernel, by decide, zT_6 235 (by decide +kernel) rfl, zS 136 (by decide +kernel) rfl⟩
set_option maxRecDepth 100000 in
theorem zMf_189 : zMf 189 := zMf_mk zQc_10 rfl rfl rfl (zT_7 4 rfl rfl)
theorem zMk_189 : zMv 189 := ⟨by decide +kernel, by decide, zT_7 3 (by decide +kernel) rfl, zS 138 (by decide +kernel) rfl⟩
set_option maxRecDepth 100000 in
theorem zMf_190 : zMf 190 := zMf_mk zQc_10 rfl rfl rfl (zT_7 0 rfl rfl)
theorem zMk_190 : zMv 190 := ⟨by decide +kernel, by decide, zT_6 239 (by decide +kernel) rfl, zS 137 (by decide +kernel) rfl⟩
set_option maxRecDepth 100000 in
theorem zMf_191 : zMf 191 := zMf_mk zQc_10 rfl rfl rfl (zT_6 228 rfl rfl)
theorem zMk_191 : zMv 191 := ⟨by decide +kernel, by decide, zT_6 227 (by decide +kernel) rfl, zS 134 (by decide +kernel) rfl⟩
set_option maxRecDepth 100000 in
theorem zMf_192 : zMf 192 := zMf_mk zQc_10 rfl rfl rfl (zT_6 224 rfl rfl)
theorem zMk_192 : zMv 192 := ⟨by decide +kernel, by decide, zT_6 223 (by decide +kernel) rfl, zS 133 (by decide +kernel) rfl⟩
set_option maxRecDepth 100000 in
theorem zMf_193 : zMf 193 := zMf_mk zQc_10 rfl rfl rfl (zT_7 20 rfl rfl)
theorem zMk_193 : zMv 193 := ⟨by decide +kernel, by decide, zT_7 19 (by decide +kernel) rfl, zS 142 (by decide +kernel) rfl⟩
set_option maxRecDepth 100000 in
theorem zMf_194 : zMf 194 := zMf_mk zQc_10 rfl rfl rfl (zT_7 16 rfl rfl)
theorem zMk_194 : zMv 194 := ⟨by decide +kernel, by decide, zT_7 15 (by decide +kernel) rfl, zS 141 (by decide +kernel) rfl⟩
set_option maxRecDepth 100000 in
theorem zMf_195 : zMf 195 := zMf_mk zQc_10 rfl rfl rfl (zT_7 24 rfl rfl)
theorem zMk_195 : zMv 195 := ⟨by decide +kernel, by decide, zT_7 23 (by decide +kernel) rfl, zS 143 (by decide +kernel) rfl⟩
set_option maxRecDepth 100000 in
theorem zMf_196 : zMf 196 := zMf_mk zQc_10 rfl rfl rfl (zT_7 28 rfl rfl)
theorem zMk_196 : zMv 196 := ⟨by decide +kernel, by decide, zT_7 27 (by decide +kernel) rfl, zS 144 (by decide +kernel) rfl⟩
set_option maxRecDepth 100000 in
theorem zMf_197 : zMf 197 := zMf_mk zQc_10 rfl rfl rfl (zT_7 32 rfl rfl)
theorem zMk_197 : zMv 197 := ⟨by decide +kernel, by decide, zT_7 31 (by decide +kernel) rfl, zS 145 (by decide +kernel) rfl⟩
set_option maxRecDepth 100000 in
theorem zMf_198 : zMf 198 := zMf_mk zQc_10 rfl rfl rfl (zT_6 212 rfl rfl)
theorem zMk_198 : zMv 198 := ⟨by decide +kernel, by decide, zT_6 211 (by decide +kernel) rfl, zS 130 (by decide +kernel) rfl⟩
set_option maxRecDepth 100000 in
theorem zMf_199 : zMf 199 := zMf_mk zQc_10 rfl rfl rfl (zT_6 200 rfl rfl)
theorem zMk_199 : zMv 199 := ⟨by decide +kernel, by decide, zT_6 199 (by decide +kernel) rfl, zS 127 (by decide +kernel) rfl⟩
set_option maxRecDepth 100000 in
theorem zMf_200 : zMf 200 := zMf_mk zQc_10 rfl rfl rfl (zT_7 54 rfl rfl)
theorem zMk_200 : zMv 200 := ⟨by decide +kernel, by decide, zT_7 53 (by decide +kernel) rfl, zS 148 (by decide +kernel) rfl⟩
set_option maxRecDepth 100000 in
theorem zMf_201 : zMf 201 := zMf_mk zQc_10 rfl rfl rfl (zT_7 58 rfl rfl)
theorem zMk_201 : zMv 201 := ⟨by decide +kernel, by decide, zT_7 57 (by decide +kernel) rfl, zS 149 (by decide +kernel) rfl⟩
set_option maxRecDepth 100000 in
theorem zMf_202 : zMf 202 := zMf_mk zQc_10 rfl rfl rfl (zT_6 192 rfl rfl)
theorem zMk_202 : zMv 202 := ⟨by decide +kernel, by decide, zT_6 190 (by decide +kernel) rfl, zT_6 191 (by decide +kernel) rfl⟩
set_option maxRecDepth 100000 in
theorem zMf_203 : zMf 203 := zMf_mk zQc_10 rfl rfl rfl (zT_7 36 rfl rfl)
theorem zMk_203 : zMv 203 := ⟨by decide +kernel, by decide, zT_7 35 (by decide +kernel) rfl, zS 146 (by decide +kernel) rfl⟩
set_option maxRecDepth 100000 in
theorem zMf_204 : zMf 204 := zMf_mk zQc_10 rfl rfl rfl (zT_7 40 rfl rfl)
theorem zMk_204 : zMv 204 := ⟨by decide +kernel, by decide, zT_7 39 (by decide +kernel) rfl, zS 147 (by decide +kernel) rfl⟩
set_option maxRecDepth 100000 in
theorem zMf_205 : zMf 205 := zMf_mk zQc_10 rfl rfl rfl (zT_7 47 rfl rfl)
theorem zMk_205 : zMs 205 := ⟨by decide +kernel, zT_7 46 (by decide +kernel) rfl⟩
set_option maxRecDepth 100000 in
theorem zMf_206 : zMf 206 := zMf_mk zQc_10 rfl rfl rfl (zT_7 50 rfl rfl)
theorem zMk_206 : zMs 206 := ⟨by decide +kernel, zT_7 49 (by decide +kernel) rfl⟩
set_option maxRecDepth 100000 in
theorem zMf_207 : zMf 207 := zMf_mk zQc_10 rfl rfl rfl (zT_7 62 rfl rfl)
theorem zMk_207 : zMv 207 := ⟨by decide +kernel, by decide, zT_7 61 (by decide +kernel) rfl, zS 150 (by decide +kernel) rfl⟩
set_option maxRecDepth 100000 in
theorem zMf_208 : zMf 208 := zMf_mk zQc_10 rfl rfl rfl (zT_7 44 rfl rfl)
theorem zMk_208 : zMv 208 := ⟨by decide +kernel, by decide, zT_7 42 (by decide +kernel) rfl, zT_7 43 (by decide +kernel) rfl⟩
set_option maxRecDepth 100000 in
theorem zMf_209 : zMf 209 := zMf_mk zQc_10 rfl rfl rfl (zT_7 66 rfl rfl)
theorem zMk_209 : zMv 209 := ⟨by decide +kernel, by decide, zT_7 64 (by decide +kernel) rfl, zT_7 65 (by decide +kernel) rfl⟩
set_option maxRecDepth 100000 in
theorem zMf_210 : zMf 210 := zMf_mk zQc_10 rfl rfl rfl (zT_6 188 rfl rfl)
theorem zMk_210 : zMv 210 := ⟨by decide +kernel, by decide, zT_6 187 (by decide +kernel) rfl, zS 125 (by decide +kernel) rfl⟩
set_option maxRecDepth 100000 in
theorem zMf_211 : zMf 211 := zMf_mk zQc_10 rfl rfl rfl (zT_7 70 rfl rfl)
theorem zMk_211 : zMv 211 := ⟨by decide +kernel, by decide, zT_7 68 (by decide +kernel) rfl, zT_7 69 (by decide +kernel) rfl⟩
set_option maxRecDepth 100000 in
theorem zMf_212 : zMf 212 := zMf_mk zQc_10 rfl rfl rfl (zT_7 78 rfl rfl)
theorem zMk_212 : zMv 212 := ⟨by decide +kernel, by decide, zT_7 77 (by decide +kernel) rfl, zS 151 (by decide +kernel) rfl⟩
set_option maxRecDepth 100000 in
theorem zMf_213 : zMf 213 := zMf_mk zQc_10 rfl rfl rfl (zT_7 74 rfl rfl)
theorem zMk_213 : zMv 213 := ⟨by decide +kernel, by decide, zT_7 72 (by decide +kernel) rfl, zT_7 73 (by decide +kernel) rfl⟩
set_option maxRecDepth 100000 in
theorem zMf_214 : zMf 214 := zMf_mk zQc_10 rfl rfl rfl (zT_7 86 rfl rfl)
theorem zMk_214 : zMv 214 := ⟨by decide +kernel, by decide, zT_7 85 (by decide +kernel) rfl, zS 152 (by decide +kernel) rfl⟩
set_option maxRecDepth 100000 in
theorem zMf_215 : zMf 215 := zMf_mk zQc_10 rfl rfl rfl (zT_7 82 rfl rfl)
theorem zMk_215 : zMv 215 := ⟨by decide +kernel, by decide, zT_7 80 (by decide +kernel) rfl, zT_7 81 (by decide +kernel) rfl⟩
set_option maxRecDepth 100000 in
theorem zMf_216 : zMf 216 := zMf_mk zQc_10 rfl rfl rfl (zT_7 94 rfl rfl)
theorem zMk_216 : zMv 216 := ⟨by decide +kernel, by decide, zT_7 93 (by decide +kernel) rfl, zS 153 (by decide +kernel) rfl⟩
set_option maxRecDepth 100000 in
theorem zMf_217 : zMf 217 := zMf_mk zQc_10 rfl rfl rfl (zT_7 90 rfl rfl)
theorem zMk_217 : zMv 217 := ⟨by decide +kernel, by decide, zT_7 88 (by decide +kernel) rfl, zT_7 89 (by decide +kernel) rfl⟩
set_option maxRecDepth 100000 in
theorem zMf_218 : zMf 218 := zMf_mk zQc_10 rfl rfl rfl (zT_7 98 rfl rfl)
theorem zMk_218 : zMv 218 := ⟨by decide +kernel, by decide, zT_7 96 (by decide +kernel) rfl, zT_7 97 (by decide +kernel) rfl⟩
set_option maxRecDepth 100000 in
theorem zMf_219 : zMf 219 := zMf_mk zQc_10 rfl rfl rfl (zT_7 106 rfl rfl)
theorem zMk_219 : zMv 219 := ⟨by decide +kernel, by decide, zT_7 105 (by decide +kernel) rfl, zS 154 (by decide +kernel) rfl⟩
set_option maxRecDepth 100000 in
theorem zMf_220 : zMf 220 := zMf_mk zQc_10 rfl rfl rfl (zT_7 102 rfl rfl)
theorem zMk_220 : zMv 220 := ⟨by decide +kernel, by decide, zT_7 100 (by decide +kernel) rfl, zT_7 101 (by decide +kernel) rfl⟩
set_option maxRecDepth 100000 in
theorem zMf_221 : zMf 221 := zMf_mk zQc_10 rfl rfl rfl (zT_7 110 rfl rfl)
theorem zMk_221 : zMv 221 := ⟨by decide +kernel, by decide, zT_7 108 (by decide +kernel) rfl, zT_7 109 (by decide +kernel) rfl⟩
set_option maxRecDepth 100000 in
theorem zMf_222 : zMf 222 := zMf_mk zQc_10 rfl rfl rfl (zT_7 118 rfl rfl)
theorem zMk_222 : zMv 222 := ⟨by decide +kernel, by decide, zT_7 117 (by decide +kernel) rfl, zS 155 (by decide +kernel) rfl⟩
set_option maxRecDepth 100000 in
theorem zMf_223 : zMf 223 := zMf_mk zQc_10 rfl rfl rfl (zT_7 114 rfl rfl)
theorem zMk_223 : zMv 223 := ⟨by decide +kernel, by decide, zT_7 112 (by decide +kernel) rfl, zT_7 113 (by decide +kernel) rfl⟩
set_option maxRecDepth 100000 in
theorem zMf_224 : zMf 224 := zMf_mk zQc_10 rfl rfl rfl (zT_7 126 rfl rfl)
theorem zMk_224 : zMv 224 := ⟨by decide +kernel, by decide, zT_7 125 (by decide +kernel) rfl, zS 156 (by decide +kernel) rfl⟩
set_option maxRecDepth 100000 in
theorem zMf_225 : zMf 225 := zMf_mk zQc_10 rfl rfl rfl (zT_7 122 rfl rfl)
theorem zMk_225 : zMv 225 := ⟨by decide +kernel, by decide, zT_7 120 (by decide +kernel) rfl, zT_7 121 (by decide +kernel) rfl⟩
set_option maxRecDepth 100000 in
theorem zMf_226 : zMf 226 := zMf_mk zQc_10 rfl rfl rfl (zT_7 134 rfl rfl)
theorem zMk_226 : zMv 226 := ⟨by decide +kernel, by decide, zT_7 133 (by decide +kernel) rfl, zS 157 (by decide +kernel) rfl⟩
set_option maxRecDepth 100000 in
theorem zMf_227 : zMf 227 := zMf_mk zQc_10 rfl rfl rfl (zT_7 130 rfl rfl)
theorem zMk_227 : zMv 227 := ⟨by decide +kernel, by decide, zT_7 128 (by decide +kernel) rfl, zT_7 129 (by decide +kernel) rfl⟩
set_option maxRecDepth 100000 in
theorem zMf_228 : zMf 228 := zMf_mk zQc_10 rfl rfl rfl (zT_7 138 rfl rfl)
theorem zMk_228 : zMv 228 := ⟨by decide +kernel, by decide, zT_7 136 (by decide +kernel) rfl, zT_7 137 (by decide +kernel) rfl⟩
set_option maxRecDepth 100000 in
theorem zMf_229 : zMf 229 := zMf_mk zQc_10 rfl rfl rfl (zT_7 146 rfl rfl)
theorem zMk_229 : zMv 229 := ⟨by decide +kernel, by decide, zT_7 145 (by decide +kernel) rfl, zS 158 (by decide +kernel) rfl⟩
set_option maxRecDepth 100000 in
theorem zMf_230 : zMf 230 := zMf_mk zQc_10 rfl rfl rfl (zT_7 142 rfl rfl)
theorem zMk_230 : zMv 230 := ⟨by decide +kernel, by decide, zT_7 140 (by decide +kernel) rfl, zT_7 141 (by decide +kernel) rfl⟩
set_option maxRecDepth 100000 in
theorem zMf_231 : zMf 231 := zMf_mk zQc_10 rfl rfl rfl (zT_7 150 rfl rfl)
theorem zMk_231 : zMv 231 := ⟨by decide +kernel, by decide, zT_7 148 (by decide +kernel) rfl, zT_7 149 (by decide +kernel) rfl⟩
set_option maxRecDepth 100000 in
theorem zMf_232 : zMf 232 := zMf_mk zQc_10 rfl rfl rfl (zT_7 158 rfl rfl)
theorem zMk_232 : zMv 232 := ⟨by decide +kernel, by decide, zT_7 157 (by decide +kernel) rfl, zS 159 (by decide +kernel) rfl⟩
set_option maxRecDepth 100000 in
theorem zMf_233 : zMf 233 := zMf_mk zQc_10 rfl rfl rfl (zT_7 154 rfl rfl)
theorem zMk_233 : zMv 233 := ⟨by decide +kernel, by decide, zT_7 152 (by decide +kernel) rfl, zT_7 153 (by decide +kernel) rfl⟩
set_option maxRecDepth 100000 in
theorem zMf_234 : zMf 234 := zMf_mk zQc_10 rfl rfl rfl (zT_7 162 rfl rfl)
theorem zMk_234 : zMv 234 := ⟨by decide +kernel, by decide, zT_7 160 (by decide +kernel) rfl, zT_7 161 (by decide +kernel) rfl⟩
set_option maxRecDepth 100000 in
theorem zMf_235 : zMf 235 := zMf_mk zQc_10 rfl rfl rfl (zT_7 170 rfl rfl)
theorem zMk_235 : zMv 235 := ⟨by decide +kernel, by decide, zT_7 169 (by decide +kernel) rfl, zS 160 (by decide +kernel) rfl⟩
set_option maxRecDepth 100000 in
theorem zMf_236 : zMf 236 := zMf_mk zQc_10 rfl rfl rfl (zT_7 173 rfl rfl)
theorem zMk_236 : zMs 236 := ⟨by decide +kernel, zT_7 172 (by decide +kernel) rfl⟩
set_option maxRecDepth 100000 in
theorem zMf_237 : zMf 237 := zMf_mk zQc_10 rfl rfl rfl (zT_7 166 rfl rfl)
theorem zMk_237 : zMv 237 := ⟨by decide +kernel, by decide, zT_7 164 (by decide +kernel) rfl, zT_7 165 (by decide +kernel) rfl⟩
set_option maxRecDepth 100000 in
theorem zMf_238 : zMf 238 := zMf_mk zQc_10 rfl rfl rfl (zT_7 181 rfl rfl)
theorem zMk_238 : zMv 238 := ⟨by decide +kernel, by decide, zT_7 180 (by decide +kernel) rfl, zS 161 (by decide +kernel) rfl⟩
set_option maxRecDepth 100000 in
theorem zMf_239 : zMf 239 := zMf_mk zQc_10 rfl rfl rfl (zT_7 177 rfl rfl)
theorem zMk_239 : zMv 239 := ⟨by decide +kernel, by decide, zT_7 175 (by decide +kernel) rfl, zT_7 176 (by decide +kernel) rfl⟩
set_option maxRecDepth 100000 in
theorem zMf_240 : zMf 240 := zMf_mk zQc_10 rfl rfl rfl (zT_7 185 rfl rfl)
theorem zMk_240 : zMv 240 := ⟨by decide +kernel, by decide, zT_7 183 (by decide +kernel) rfl, zT_7 184 (by decide +kernel) rfl⟩
set_option maxRecDepth 100000 in
theorem zMf_241 : zMf 241 := zMf_mk zQc_10 rfl rfl rfl (zT_7 193 rfl rfl)
theorem zMk_241 : zMv 241 := ⟨by decide +kernel, by decide, zT_7 192 (by decide +kernel) rfl, zS 162 (by decide +kernel) rfl⟩
set_option maxRecDepth 100000 in
theorem zMf_242 : zMf 242 := zMf_mk zQc_10 rfl rfl rfl (zT_7 189 rfl rfl)
theorem zMk_242 : zMv 242 := ⟨by decide +kernel, by decide, zT_7 187 (by decide +kernel) rfl, zT_7 188 (by decide +kernel) rfl⟩
set_option maxRecDepth 100000 in
theorem zMf_243 : zMf 243 := zMf_mk zQc_10 rfl rfl rfl (zT_7 197 rfl rfl)
theorem zMk_243 : zMv 243 := ⟨by decide +kernel, by decide, zT_7 195 (by decide +kernel) rfl, zT_7 196 (by decide +kernel) rfl⟩
set_option maxRecDepth 100000 in
theorem zMf_244 : zMf 244 := zMf_mk zQc_10 rfl rfl rfl (zT_7 201 rfl rfl)
theorem zMk_244 : zMv 244 := ⟨by decide +kernel, by decide, zT_7 199 (by decide +kernel) rfl, zT_7 200 (by decide +kernel) rfl⟩
set_option maxRecDepth 100000 in
theorem zMf_245 : zMf 245 := zMf_mk zQc_10 rfl rfl rfl (zT_7 205 rfl rfl)
theorem zMk_245 : zMv 245 := ⟨by decide +kernel, by decide, zT_7 203 (by decide +kernel) rfl, zT_7 204 (by decide +kernel) rfl⟩
set_option maxRecDepth 100000 in
theorem zMf_246 : zMf 246 := zMf_mk zQc_10 rfl rfl rfl (zT_7 209 rfl rfl)
theorem zMk_246 : zMv 246 := ⟨by decide +kernel, by decide, zT_7 207 (by decide +kernel) rfl, zT_7 208 (by decide +kernel) rfl⟩
set_option maxRecDepth 100000 in
theorem zMf_247 : zMf 247 := zMf_mk zQc_10 rfl rfl rfl (zT_7 213 rfl rfl)
theorem zMk_247 : zMv 247 := ⟨by decide +kernel, by decide, zT_7 211 (by decide +kernel) rfl, zT_7 212 (by decide +kernel) rfl⟩
set_option maxRecDepth 100000 in
theorem zMf_248 : zMf 248 := zMf_mk zQc_10 rfl rfl rfl (zT_7 221 rfl rfl)
theorem zMk_248 : zMv 248 := ⟨by decide +kernel, by decide, zT_7 220 (by decide +kernel) rfl, zS 163 (by decide +kernel) rfl⟩
set_option maxRecDepth 100000 in
theorem zMf_249 : zMf 249 := zMf_mk zQc_10 rfl rfl rfl (zT_7 217 rfl rfl)
theorem zMk_249 : zMv 249 := ⟨by decide +kernel, by decide, zT_7 215 (by decide +kernel) rfl, zT_7 216 (by decide +kernel) rfl⟩
set_option maxRecDepth 100000 in
theorem zMf_250 : zMf 250 := zMf_mk zQc_10 rfl rfl rfl (zT_7 225 rfl rfl)
theorem zMk_250 : zMv 250 := ⟨by decide +kernel, by decide, zT_7 223 (by decide +kernel) rfl, zT_7 224 (by decide +kernel) rfl⟩
set_option maxRecDepth 100000 in
theorem zMf_251 : zMf 251 := zMf_mk zQc_10 rfl rfl rfl (zT_7 229 rfl rfl)
theorem zMk_251 : zMv 251 := ⟨by decide +kernel, by decide, zT_7 227 (by decide +kernel) rfl, zT_7 228 (by decide +kernel) rfl⟩
set_option maxRecDepth 100000 in
theorem zMf_252 : zMf 252 := zMf_mk zQc_10 rfl rfl rfl (zT_7 233 rfl rfl)
theorem zMk_252 : zMv 252 := ⟨by decide +kernel, by decide, zT_7 232 (by decide +kernel) rfl, zS 164 (by decide +kernel) rfl⟩
set_option maxRecDepth 100000 in
theorem zMf_253 : zMf 253 := ⟨by decide +kernel, ⟨by decide +kernel, by decide +kernel⟩, rfl, rfl, zT_4 16 rfl rfl, zT_1 24 (by decide +kernel) rfl⟩
theorem zMk_253 : zMs 253 := ⟨by decide +kernel, zT_4 15 (by decide +kernel) rfl⟩
set_option maxRecDepth 100000 in
theorem zMf_254 : zMf 254 := ⟨by decide +kernel, ⟨by decide +kernel, by decide +kernel⟩, rfl, rfl, zT_2 159 rfl rfl, zT_1 12 (by decide +kernel) rfl⟩
theorem zMk_254 : zMs 254 := ⟨by decide +kernel, zT_2 158 (by decide +kernel) rfl⟩
theorem z_sp {P : Nat → Prop} (a b c : Nat) (h1 : ∀ j, a ≤ j → j < b → P j) (h2 : ∀ j, b ≤ j → j < c → P j) : ∀ j, a ≤ j → j < c → P j := fun j h3 h4 => if h : j < b then h1 j h3 h else h2 j (Nat.le_of_not_lt h) h4
theorem z_lf {P : Nat → Prop} (a : Nat) (h : P a) : ∀ j, a ≤ j → j < a + 1 → P j := fun j h1 h2 => (Nat.le_antisymm h1 (Nat.le_of_lt_succ h2)) ▸ h
theorem zMf_ok : ∀ j, j < 255 → zMf j := fun j h => (show ∀ j, 0 ≤ j → j < 255 → zMf j from (z_sp 0 127 255 (z_sp 0 63 127 (z_sp 0 31 63 (z_sp 0 15 31 (z_sp 0 7 15 (z_sp 0 3 7 (z_sp 0 1 3 (z_lf 0 zMf_0) (z_sp 1 2 3 (z_lf 1 zMf_1) (z_lf 2 zMf_2))) (z_sp 3 5 7 (z_sp 3 4 5 (z_lf 3 zMf_3) (z_lf 4 zMf_4)) (z_sp 5 6 7 (z_lf 5 zMf_5) (z_lf 6 zMf_6)))) (z_sp 7 11 15 (z_sp 7 9 11 (z_sp 7 8 9 (z_lf 7 zMf_7) (z_lf 8 zMf_8)) (z_sp 9 10 11 (z_lf 9 zMf_9) (z_lf 10 zMf_10))) (z_sp 11 13 15 (z_sp 11 12 13 (z_lf 11 zMf_11) (z_lf 12 zMf_12)) (z_sp 13 14 15 (z_lf 13 zMf_13) (z_lf 14 zMf_14))))) (z_sp 15 23 31 (z_sp 15 19 23 (z_sp 15 17 19 (z_sp 15 16 17 (z_lf 15 zMf_15) (z_lf 16 zMf_16)) (z_sp 17 18 19 (z_lf 17 zMf_17) (z_lf 18 zMf_18))) (z_sp 19 21 23 (z_sp 19 20 21 (z_lf 19 zMf_19) (z_lf 20 zMf_20)) (z_sp 21 22 23 (z_lf 21 zMf_21) (z_lf 22 zMf_22)))) (z_sp 23 27 31 (z_sp 23 25 27 (z_sp 23 24 25 (z_lf 23 zMf_23) (z_lf 24 zMf_24)) (z_sp 25 26 27 (z_lf 25 zMf_25) (z_lf 26 zMf_26))) (z_sp 27 29 31 (z_sp 27 28 29 (z_lf 27 zMf_27) (z_lf 28 zMf_28)) (z_sp 29 30 31 (z_lf 29 zMf_29) (z_lf 30 zMf_30)))))) (z_sp 31 47 63 (z_sp 31 39 47 (z_sp 31 35 39 (z_sp 31 33 35 (z_sp 31 32 33 (z_lf 31 zMf_31) (z_lf 32 zMf_32)) (z_sp 33 34 35 (z_lf 33 zMf_33) (z_lf 34 zMf_34))) (z_sp 35 37 39 (z_sp 35 36 37 (z_lf 35 zMf_35) (z_lf 36 zMf_36)) (z_sp 37 38 39 (z_lf 37 zMf_37) (z_lf 38 zMf_38)))) (z_sp 39 43 47 (z_sp 39 41 43 (z_sp 39 40 41 (z_lf 39 zMf_39) (z_lf 40 zMf_40)) (z_sp 41 42 43 (z_lf 41 zMf_41) (z_lf 42 zMf_42))) (z_sp 43 45 47 (z_sp 43 44 45 (z_lf 43 zMf_43) (z_lf 44 zMf_44)) (z_sp 45 46 47 (z_lf 45 zMf_45) (z_lf 46 zMf_46))))) (z_sp 47 55 63 (z_sp 47 51 55 (z_sp 47 49 51 (z_sp 47 48 49 (z_lf 47 zMf_47) (z_lf 48 zMf_48)) (z_sp 49 50 51 (z_lf 49 zMf_49) (z_lf 50 zMf_50))) (z_sp 51 53 55 (z_sp 51 52 53 (z_lf 51 zMf_51) (z_lf 52 zMf_52)) (z_sp 53 54 55 (z_lf 53 zMf_53) (z_lf 54 zMf_54)))) (z_sp 55 59 63 (z_sp 55 57 59 (z_sp 55 56 57 (z_lf 55 zMf_55) (z_lf 56 zMf_56)) (z_sp 57 58 59 (z_lf 57 zMf_57) (z_lf 58 zMf_58))) (z_sp 59 61 63 (z_sp 59 60 61 (z_lf 59 zMf_59) (z_lf 60 zMf_60)) (z_sp 61 62 63 (z_lf 61 zMf_61) (z_lf 62 zMf_62))))))) (z_sp 63 95 127 (z_sp 63 79 95 (z_sp 63 71 79 (z_sp 63 67 71 (z_sp 63 65 67 (z_sp 63 64 65 (z_lf 63 zMf_63) (z_lf 64 zMf_64)) (z_sp 65 66 67 (z_lf 65 zMf_65) (z_lf 66 zMf_66))) (z_sp 67 69 71 (z_sp 67 68 69 (z_lf 67 zMf_67) (z_lf 68 zMf_68)) (z_sp 69 70 71 (z_lf 69 zMf_69) (z_lf 70 zMf_70)))) (z_sp 71 75 79 (z_sp 71 73 75 (z_sp 71 72 73 (z_lf 71 zMf_71) (z_lf 72 zMf_72)) (z_sp 73 74 75 (z_lf 73 zMf_73) (z_lf 74 zMf_74))) (z_sp 75 77 79 (z_sp 75 76 77 (z_lf 75 zMf_75) (z_lf 76 zMf_76)) (z_sp 77 78 79 (z_lf 77 zMf_77) (z_lf 78 zMf_78))))) (z_sp 79 87 95 (z_sp 79 83 87 (z_sp 79 81 83 (z_sp 79 80 81 (z_lf 79 zMf_79) (z_lf 80 zMf_80)) (z_sp 81 82 83 (z_lf 81 zMf_81) (z_lf 82 zMf_82))) (z_sp 83 85 87 (z_sp 83 84 85 (z_lf 83 zMf_83) (z_lf 84 zMf_84)) (z_sp 85 86 87 (z_lf 85 zMf_85) (z_lf 86 zMf_86)))) (z_sp 87 91 95 (z_sp 87 89 91 (z_sp 87 88 89 (z_lf 87 zMf_87) (z_lf 88 zMf_88)) (z_sp 89 90 91 (z_lf 89 zMf_89) (z_lf 90 zMf_90))) (z_sp 91 93 95 (z_sp 91 92 93 (z_lf 91 zMf_91) (z_lf 92 zMf_92)) (z_sp 93 94 95 (z_lf 93 zMf_93) (z_lf 94 zMf_94)))))) (z_sp 95 111 127 (z_sp 95 103 111 (z_sp 95 99 103 (z_sp 95 97 99 (z_sp 95 96 97 (z_lf 95 zMf_95) (z_lf 96 zMf_96)) (z_sp 97 98 99 (z_lf 97 zMf_97) (z_lf 98 zMf_98))) (z_sp 99 101 103 (z_sp 99 100 101 (z_lf 99 zMf_99) (z_lf 100 zMf_100)) (z_sp 101 102 103 (z_lf 101 zMf_101) (z_lf 102 zMf_102)))) (z_sp 103 107 111 (z_sp 103 105 107 (z_sp 103 104 105 (z_lf 103 zMf_103) (z_lf 104 zMf_104)) (z_sp 105 106 107 (z_lf 105 zMf_105) (z_lf 106 zMf_106))) (z_sp 107 109 111 (z_sp 107 108 109 (z_lf 107 zMf_107) (z_lf 108 zMf_108)) (z_sp 109 110 111 (z_lf 109 zMf_109) (z_lf 110 zMf_110))))) (z_sp 111 119 127 (z_sp 111 115 119 (z_sp 111 113 115 (z_sp 111 112 113 (z_lf 111 zMf_111) (z_lf 112 zMf_112)) (z_sp 113 114 115 (z_lf 113 zMf_113) (z_lf 114 zMf_114))) (z_sp 115 117 119 (z_sp 115 116 117 (z_lf 115 zMf_115) (z_lf 116 zMf_116)) (z_sp 117 118 119 (z_lf 117 zMf_117) (z_lf 118 zMf_118)))) (z_sp 119 123 127 (z_sp 119 121 123 (z_sp 119 120 121 (z_lf 119 zMf_119) (z_lf 120 zMf_120)) (z_sp 121 122 123 (z_lf 121 zMf_121) (z_lf 122 zMf_122))) (z_sp 123 125 127 (z_sp 123 124 125 (z_lf 123 zMf_123) (z_lf 124 zMf_124)) (z_sp 125 126 127 (z_lf 125 zMf_125) (z_lf 126 zMf_126)))))))) (z_sp 127 191 255 (z_sp 127 159 191 (z_sp 127 143 159 (z_sp 127 135 143 (z_sp 127 131 135 (z_sp 127 129 131 (z_sp 127 128 129 (z_lf 127 zMf_127) (z_lf 128 zMf_128)) (z_sp 129 130 131 (z_lf 129 zMf_129) (z_lf 130 zMf_130))) (z_sp 131 133 135 (z_sp 131 132 133 (z_lf 131 zMf_131) (z_lf 132 zMf_132)) (z_sp 133 134 135 (z_lf 133 zMf_133) (z_lf 134 zMf_134)))) (z_sp 135 139 143 (z_sp 135 137 139 (z_sp 135 136 137 (z_lf 135 zMf_135) (z_lf 136 zMf_136)) (z_sp 137 138 139 (z_lf 137 zMf_137) (z_lf 138 zMf_138))) (z_sp 139 141 143 (z_sp 139 140 141 (z_lf 139 zMf_139) (z_lf 140 zMf_140)) (z_sp 141 142 143 (z_lf 141 zMf_141) (z_lf 142 zMf_142))))) (z_sp 143 151 159 (z_sp 143 147 151 (z_sp 143 145 147 (z_sp 143 144 145 (z_lf 143 zMf_143) (z_lf 144 zMf_144)) (z_sp 145 146 147 (z_lf 145 zMf_145) (z_lf 146 zMf_146))) (z_sp 147 149 151 (z_sp 147 148 149 (z_lf 147 zMf_147) (z_lf 148 zMf_148)) (z_sp 149 150 151 (z_lf 149 zMf_149) (z_lf 150 zMf_150)))) (z_sp 151 155 159 (z_sp 151 153 155 (z_sp 151 152 153 (z_lf 151 zMf_151) (z_lf 152 zMf_152)) (z_sp 153 154 155 (z_lf 153 zMf_153) (z_lf 154 zMf_154))) (z_sp 155 157 159 (z_sp 155 156 157 (z_lf 155 zMf_155) (z_lf 156 zMf_156)) (z_sp 157 158 159 (z_lf 157 zMf_157) (z_lf 158 zMf_158)))))) (z_sp 159 175 191 (z_sp 159 167 175 (z_sp 159 163 167 (z_sp 159 161 163 (z_sp 159 160 161 (z_lf 159 zMf_159) (z_lf 160 zMf_160)) (z_sp 161 162 163 (z_lf 161 zMf_161) (z_lf 162 zMf_162))) (z_sp 163 165 167 (z_sp 163 164 165 (z_lf 163 zMf_163) (z_lf 164 zMf_164)) (z_sp 165 166 167 (z_lf 165 zMf_165) (z_lf 166 zMf_166)))) (z_sp 167 171 175 (z_sp 167 169 171 (z_sp 167 168 169 (z_lf 167 zMf_167) (z_lf 168 zMf_168)) (z_sp 169 170 171 (z_lf 169 zMf_169) (z_lf 170 zMf_170))) (z_sp 171 173 175 (z_sp 171 172 173 (z_lf 171 zMf_171) (z_lf 172 zMf_172)) (z_sp 173 174 175 (z_lf 173 zMf_173) (z_lf 174 zMf_174))))) (z_sp 175 183 191 (z_sp 175 179 183 (z_sp 175 177 179 (z_sp 175 176 177 (z_lf 175 zMf_175) (z_lf 176 zMf_176)) (z_sp 177 178 179 (z_lf 177 zMf_177) (z_lf 178 zMf_178))) (z_sp 179 181 183 (z_sp 179 180 181 (z_lf 179 zMf_179) (z_lf 180 zMf_180)) (z_sp 181 182 183 (z_lf 181 zMf_181) (z_lf 182 zMf_182)))) (z_sp 183 187 191 (z_sp 183 185 187 (z_sp 183 184 185 (z_lf 183 zMf_183) (z_lf 184 zMf_184)) (z_sp 185 186 187 (z_lf 185 zMf_185) (z_lf 186 zMf_186))) (z_sp 187 189 191 (z_sp 187 188 189 (z_lf 187 zMf_187) (z_lf 188 zMf_188)) (z_sp 189 190 191 (z_lf 189 zMf_189) (z_lf 190 zMf_190))))))) (z_sp 191 223 255 (z_sp 191 207 223 (z_sp 191 199 207 (z_sp 191 195 199 (z_sp 191 193 195 (z_sp 191 192 193 (z_lf 191 zMf_191) (z_lf 192 zMf_192)) (z_sp 193 194 195 (z_lf 193 zMf_193) (z_lf 194 zMf_194))) (z_sp 195 197 199 (z_sp 195 196 197 (z_lf 195 zMf_195) (z_lf 196 zMf_196)) (z_sp 197 198 199 (z_lf 197 zMf_197) (z_lf 198 zMf_198)))) (z_sp 199 203 207 (z_sp 199 201 203 (z_sp 199 200 201 (z_lf 199 zMf_199) (z_lf 200 zMf_200)) (z_sp 201 202 203 (z_lf 201 zMf_201) (z_lf 202 zMf_202))) (z_sp 203 205 207 (z_sp 203 204 205 (z_lf 203 zMf_203) (z_lf 204 zMf_204)) (z_sp 205 206 207 (z_lf 205 zMf_205) (z_lf 206 zMf_206))))) (z_sp 207 215 223 (z_sp 207 211 215 (z_sp 207 209 211 (z_sp 207 208 209 (z_lf 207 zMf_207) (z_lf 208 zMf_208)) (z_sp 209 210 211 (z_lf 209 zMf_209) (z_lf 210 zMf_210))) (z_sp 211 213 215 (z_sp 211 212 213 (z_lf 211 zMf_211) (z_lf 212 zMf_212)) (z_sp 213 214 215 (z_lf 213 zMf_213) (z_lf 214 zMf_214)))) (z_sp 215 219 223 (z_sp 215 217 219 (z_sp 215 216 217 (z_lf 215 zMf_215) (z_lf 216 zMf_216)) (z_sp 217 218 219 (z_lf 217 zMf_217) (z_lf 218 zMf_218))) (z_sp 219 221 223 (z_sp 219 220 221 (z_lf 219 zMf_219) (z_lf 220 zMf_220)) (z_sp 221 222 223 (z_lf 221 zMf_221) (z_lf 222 zMf_222)))))) (z_sp 223 239 255 (z_sp 223 231 239 (z_sp 223 227 231 (z_sp 223 225 227 (z_sp 223 224 225 (z_lf 223 zMf_223) (z_lf 224 zMf_224)) (z_sp 225 226 227 (z_lf 225 zMf_225) (z_lf 226 zMf_226))) (z_sp 227 229 231 (z_sp 227 228 229 (z_lf 227 zMf_227) (z_lf 228 zMf_228)) (z_sp 229 230 231 (z_lf 229 zMf_229) (z_lf 230 zMf_230)))) (z_sp 231 235 239 (z_sp 231 233 235 (z_sp 231 232 233 (z_lf 231 zMf_231) (z_lf 232 zMf_232)) (z_sp 233 234 235 (z_lf 233 zMf_233) (z_lf 234 zMf_234))) (z_sp 235 237 239 (z_sp 235 236 237 (z_lf 235 zMf_235) (z_lf 236 zMf_236)) (z_sp 237 238 239 (z_lf 237 zMf_237) (z_lf 238 zMf_238))))) (z_sp 239 247 255 (z_sp 239 243 247 (z_sp 239 241 243 (z_sp 239 240 241 (z_lf 239 zMf_239) (z_lf 240 zMf_240)) (z_sp 241 242 243 (z_lf 241 zMf_241) (z_lf 242 zMf_242))) (z_sp 243 245 247 (z_sp 243 244 245 (z_lf 243 zMf_243) (z_lf 244 zMf_244)) (z_sp 245 246 247 (z_lf 245 zMf_245) (z_lf 246 zMf_246)))) (z_sp 247 251 255 (z_sp 247 249 251 (z_sp 247 248 249 (z_lf 247 zMf_247) (z_lf 248 zMf_248)) (z_sp 249 250 251 (z_lf 249 zMf_249) (z_lf 250 zMf_250))) (z_sp 251 253 255 (z_sp 251 252 253 (z_lf 251 zMf_251) (z_lf 252 zMf_252)) (z_sp 253 254 255 (z_lf 253 zMf_253) (z_lf 254 zMf_254)))))))))) j (Nat.zero_le j) h
theorem zC_ok : ∀ j, j < 11 → zCp j := fun j h => (show ∀ j, 0 ≤ j → j < 11 → zCp j from (z_sp 0 5 11 (z_sp 0 2 5 (z_sp 0 1 2 (z_lf 0 zC_0) (z_lf 1 zC_1)) (z_sp 2 3 5 (z_lf 2 zC_2) (z_sp 3 4 5 (z_lf 3 zC_3) (z_lf 4 zC_4)))) (z_sp 5 8 11 (z_sp 5 6 8 (z_lf 5 zC_5) (z_sp 6 7 8 (z_lf 6 zC_6) (z_lf 7 zC_7))) (z_sp 8 9 11 (z_lf 8 zC_8) (z_sp 9 10 11 (z_lf 9 zC_9) (z_lf 10 zC_10)))))) j (Nat.zero_le j) h
def zKv : List Nat := [1, 2, 3, 4, 5, 6, 7, 9, 10, 11, 12, 13, 14, 15, 16, 17, 18, 19, 20, 21, 22, 24, 25, 26, 27, 29, 30, 31, 32, 33, 34, 35, 36, 38, 39, 40, 41, 42, 43, 44, 45, 46, 47, 48, 49, 50, 52, 53, 54, 55, 56, 57, 58, 59, 60, 61, 62, 63, 64, 65, 66, 67, 68, 70, 71, 73, 74, 75, 76, 77, 78, 79, 80, 81, 83, 84, 85, 86, 87, 88, 89, 90, 91, 92, 93, 94, 95, 96, 97, 98, 99, 100, 101, 102, 103, 104, 105, 106, 107, 108, 109, 110, 111, 113, 114, 115, 116, 117, 118, 119, 120, 121, 122, 123, 124, 125, 126, 127, 128, 129, 130, 131, 132, 133, 134, 135, 136, 137, 138, 139, 140, 141, 142, 143, 144, 145, 146, 147, 148, 151, 152, 155, 156, 159, 160, 161, 162, 163, 164, 165, 166, 167, 168, 169, 170, 171, 172, 173, 174, 175, 176, 177, 178, 179, 180, 181, 182, 183, 184, 185, 186, 187, 188, 189, 190, 191, 192, 193, 194, 195, 196, 197, 198, 199, 200, 201, 202, 203, 204, 207, 208, 209, 210, 211, 212, 213, 214, 215, 216, 217, 218, 219, 220, 221, 222, 223, 224, 225, 226, 227, 228, 229, 230, 231, 232, 233, 234, 235, 237, 238, 239, 240, 241, 242, 243, 244, 245, 246, 247, 248, 249, 250, 251, 252]
theorem zKv_0 : ∀ r ∈ ([1, 2, 3, 4, 5, 6, 7, 9, 10, 11, 12, 13, 14, 15, 16, 17, 18, 19, 20, 21, 22, 24, 25, 26, 27, 29, 30, 31, 32, 33, 34, 35, 36, 38, 39, 40, 41, 42, 43, 44] : List Nat), zMv r := List.forall_mem_cons.mpr ⟨zMk_1, List.forall_mem_cons.mpr ⟨zMk_2, List.forall_mem_cons.mpr ⟨zMk_3, List.forall_mem_cons.mpr ⟨zMk_4, List.forall_mem_cons.mpr ⟨zMk_5, List.forall_mem_cons.mpr ⟨zMk_6, List.forall_mem_cons.mpr ⟨zMk_7, List.forall_mem_cons.mpr ⟨zMk_9, List.forall_mem_cons.mpr ⟨zMk_10, List.forall_mem_cons.mpr ⟨zMk_11, List.forall_mem_cons.mpr ⟨zMk_12, List.forall_mem_cons.mpr ⟨zMk_13, List.forall_mem_cons.mpr ⟨zMk_14, List.forall_mem_cons.mpr ⟨zMk_15, List.forall_mem_cons.mpr ⟨zMk_16, List.forall_mem_cons.mpr ⟨zMk_17, List.forall_mem_cons.mpr ⟨zMk_18, List.forall_mem_cons.mpr ⟨zMk_19, List.forall_mem_cons.mpr ⟨zMk_20, List.forall_mem_cons.mpr ⟨zMk_21, List.forall_mem_cons.mpr ⟨zMk_22, List.forall_mem_cons.mpr ⟨zMk_24, List.forall_mem_cons.mpr ⟨zMk_25, List.forall_mem_cons.mpr ⟨zMk_26, List.forall_mem_cons.mpr ⟨zMk_27, List.forall_mem_cons.mpr ⟨zMk_29, List.forall_mem_cons.mpr ⟨zMk_30, List.forall_mem_cons.mpr ⟨zMk_31, List.forall_mem_cons.mpr ⟨zMk_32, List.forall_mem_cons.mpr ⟨zMk_33, List.forall_mem_cons.mpr ⟨zMk_34, List.forall_mem_cons.mpr ⟨zMk_35, List.forall_mem_cons.mpr ⟨zMk_36, List.forall_mem_cons.mpr ⟨zMk_38, List.forall_mem_cons.mpr ⟨zMk_39, List.forall_mem_cons.mpr ⟨zMk_40, List.forall_mem_cons.mpr ⟨zMk_41, List.forall_mem_cons.mpr ⟨zMk_42, List.forall_mem_cons.mpr ⟨zMk_43, List.forall_mem_cons.mpr ⟨zMk_44, fun _ h => absurd h List.not_mem_nil⟩⟩⟩⟩⟩⟩⟩⟩⟩⟩⟩⟩⟩⟩⟩⟩⟩⟩⟩⟩⟩⟩⟩⟩⟩⟩⟩⟩⟩⟩⟩⟩⟩⟩⟩⟩⟩⟩⟩⟩
theorem zKv_1 : ∀ r ∈ ([45, 46, 47, 48, 49, 50, 52, 53, 54, 55, 56, 57, 58, 59, 60, 61, 62, 63, 64, 65, 66, 67, 68, 70, 71, 73, 74, 75, 76, 77, 78, 79, 80, 81, 83, 84, 85, 86, 87, 88] : List Nat), zMv r := List.forall_mem_cons.mpr ⟨zMk_45, List.forall_mem_cons.mpr ⟨zMk_46, List.forall_mem_cons.mpr ⟨zMk_47, List.forall_mem_cons.mpr ⟨zMk_48, List.forall_mem_cons.mpr ⟨zMk_49, List.forall_mem_cons.mpr ⟨zMk_50, List.forall_mem_cons.mpr ⟨zMk_52, List.forall_mem_cons.mpr ⟨zMk_53, List.forall_mem_cons.mpr ⟨zMk_54, List.forall_mem_cons.mpr ⟨zMk_55, List.forall_mem_cons.mpr ⟨zMk_56, List.forall_mem_cons.mpr ⟨zMk_57, List.forall_mem_cons.mpr ⟨zMk_58, List.forall_mem_cons.mpr ⟨zMk_59, List.forall_mem_cons.mpr ⟨zMk_60, List.forall_mem_cons.mpr ⟨zMk_61, List.forall_mem_cons.mpr ⟨zMk_62, List.forall_mem_cons.mpr ⟨zMk_63, List.forall_mem_cons.mpr ⟨zMk_64, List.forall_mem_cons.mpr ⟨zMk_65, List.forall_mem_cons.mpr ⟨zMk_66, List.forall_mem_cons.mpr ⟨zMk_67, List.forall_mem_cons.mpr ⟨zMk_68, List.forall_mem_cons.mpr ⟨zMk_70, List.forall_mem_cons.mpr ⟨zMk_71, List.forall_mem_cons.mpr ⟨zMk_73, List.forall_mem_cons.mpr ⟨zMk_74, List.forall_mem_cons.mpr ⟨zMk_75, List.forall_mem_cons.mpr ⟨zMk_76, List.forall_mem_cons.mpr ⟨zMk_77, List.forall_mem_cons.mpr ⟨zMk_78, List.forall_mem_cons.mpr ⟨zMk_79, List.forall_mem_cons.mpr ⟨zMk_80, List.forall_mem_cons.mpr ⟨zMk_81, List.forall_mem_cons.mpr ⟨zMk_83, List.forall_mem_cons.mpr ⟨zMk_84, List.forall_mem_cons.mpr ⟨zMk_85, List.forall_mem_cons.mpr ⟨zMk_86, List.forall_mem_cons.mpr ⟨zMk_87, List.forall_mem_cons.mpr ⟨zMk_88, fun _ h => absurd h List.not_mem_nil⟩⟩⟩⟩⟩⟩⟩⟩⟩⟩⟩⟩⟩⟩⟩⟩⟩⟩⟩⟩⟩⟩⟩⟩⟩⟩⟩⟩⟩⟩⟩⟩⟩⟩⟩⟩⟩⟩⟩⟩
theorem zKv_2 : ∀ r ∈ ([89, 90, 91, 92, 93, 94, 95, 96, 97, 98, 99, 100, 101, 102, 103, 104, 105, 106, 107, 108, 109, 110, 111, 113, 114, 115, 116, 117, 118, 119, 120, 121, 122, 123, 124, 125, 126, 127, 128, 129] : List Nat), zMv r := List.forall_mem_cons.mpr ⟨zMk_89, List.forall_mem_cons.mpr ⟨zMk_90, List.forall_mem_cons.mpr ⟨zMk_91, List.forall_mem_cons.mpr ⟨zMk_92, List.forall_mem_cons.mpr ⟨zMk_93, List.forall_mem_cons.mpr ⟨zMk_94, List.forall_mem_cons.mpr ⟨zMk_95, List.forall_mem_cons.mpr ⟨zMk_96, List.forall_mem_cons.mpr ⟨zMk_97, List.forall_mem_cons.mpr ⟨zMk_98, List.forall_mem_cons.mpr ⟨zMk_99, List.forall_mem_cons.mpr ⟨zMk_100, List.forall_mem_cons.mpr ⟨zMk_101, List.forall_mem_cons.mpr ⟨zMk_102, List.forall_mem_cons.mpr ⟨zMk_103, List.forall_mem_cons.mpr ⟨zMk_104, List.forall_mem_cons.mpr ⟨zMk_105, List.forall_mem_cons.mpr ⟨zMk_106, List.forall_mem_cons.mpr ⟨zMk_107, List.forall_mem_cons.mpr ⟨zMk_108, List.forall_mem_cons.mpr ⟨zMk_109, List.forall_mem_cons.mpr ⟨zMk_110, List.forall_mem_cons.mpr ⟨zMk_111, List.forall_mem_cons.mpr ⟨zMk_113, List.forall_mem_cons.mpr ⟨zMk_114, List.forall_mem_cons.mpr ⟨zMk_115, List.forall_mem_cons.mpr ⟨zMk_116, List.forall_mem_cons.mpr ⟨zMk_117, List.forall_mem_cons.mpr ⟨zMk_118, List.forall_mem_cons.mpr ⟨zMk_119, List.forall_mem_cons.mpr ⟨zMk_120, List.forall_mem_cons.mpr ⟨zMk_121, List.forall_mem_cons.mpr ⟨zMk_122, List.forall_mem_cons.mpr ⟨zMk_123, List.forall_mem_cons.mpr ⟨zMk_124, List.forall_mem_cons.mpr ⟨zMk_125, List.forall_mem_cons.mpr ⟨zMk_126, List.forall_mem_cons.mpr ⟨zMk_127, List.forall_mem_cons.mpr ⟨zMk_128, List.forall_mem_cons.mpr ⟨zMk_129, fun _ h => absurd h List.not_mem_nil⟩⟩⟩⟩⟩⟩⟩⟩⟩⟩⟩⟩⟩⟩⟩⟩⟩⟩⟩⟩⟩⟩⟩⟩⟩⟩⟩⟩⟩⟩⟩⟩⟩⟩⟩⟩⟩⟩⟩⟩
theorem zKv_3 : ∀ r ∈ ([130, 131, 132, 133, 134, 135, 136, 137, 138, 139, 140, 141, 142, 143, 144, 145, 146, 147, 148, 151, 152, 155, 156, 159, 160, 161, 162, 163, 164, 165, 166, 167, 168, 169, 170, 171, 172, 173, 174, 175] : List Nat), zMv r := List.forall_mem_cons.mpr ⟨zMk_130, List.forall_mem_cons.mpr ⟨zMk_131, List.forall_mem_cons.mpr ⟨zMk_132, List.forall_mem_cons.mpr ⟨zMk_133, List.forall_mem_cons.mpr ⟨zMk_134, List.forall_mem_cons.mpr ⟨zMk_135, List.forall_mem_cons.mpr ⟨zMk_136, List.forall_mem_cons.mpr ⟨zMk_137, List.forall_mem_cons.mpr ⟨zMk_138, List.forall_mem_cons.mpr ⟨zMk_139, List.forall_mem_cons.mpr ⟨zMk_140, List.forall_mem_cons.mpr ⟨zMk_141, List.forall_mem_cons.mpr ⟨zMk_142, List.forall_mem_cons.mpr ⟨zMk_143, List.forall_mem_cons.mpr ⟨zMk_144, List.forall_mem_cons.mpr ⟨zMk_145, List.forall_mem_cons.mpr ⟨zMk_146, List.forall_mem_cons.mpr ⟨zMk_147, List.forall_mem_cons.mpr ⟨zMk_148, List.forall_mem_cons.mpr ⟨zMk_151, List.forall_mem_cons.mpr ⟨zMk_152, List.forall_mem_cons.mpr ⟨zMk_155, List.forall_mem_cons.mpr ⟨zMk_156, List.forall_mem_cons.mpr ⟨zMk_159, List.forall_mem_cons.mpr ⟨zMk_160, List.forall_mem_cons.mpr ⟨zMk_161, List.forall_mem_cons.mpr ⟨zMk_162, List.forall_mem_cons.mpr ⟨zMk_163, List.forall_mem_cons.mpr ⟨zMk_164, List.forall_mem_cons.mpr ⟨zMk_165, List.forall_mem_cons.mpr ⟨zMk_166, List.forall_mem_cons.mpr ⟨zMk_167, List.forall_mem_cons.mpr ⟨zMk_168, List.forall_mem_cons.mpr ⟨zMk_169, List.forall_mem_cons.mpr ⟨zMk_170, List.forall_mem_cons.mpr ⟨zMk_171, List.forall_mem_cons.mpr ⟨zMk_172, List.forall_mem_cons.mpr ⟨zMk_173, List.forall_mem_cons.mpr ⟨zMk_174, List.forall_mem_cons.mpr ⟨zMk_175, fun _ h => absurd h List.not_mem_nil⟩⟩⟩⟩⟩⟩⟩⟩⟩⟩⟩⟩⟩⟩⟩⟩⟩⟩⟩⟩⟩⟩⟩⟩⟩⟩⟩⟩⟩⟩⟩⟩⟩⟩⟩⟩⟩⟩⟩⟩
theorem zKv_4 : ∀ r ∈ ([176, 177, 178, 179, 180, 181, 182, 183, 184, 185, 186, 187, 188, 189, 190, 191, 192, 193, 194, 195, 196, 197, 198, 199, 200, 201, 202, 203, 204, 207, 208, 209, 210, 211, 212, 213, 214, 215, 216, 217] : List Nat), zMv r := List.forall_mem_cons.mpr ⟨zMk_176, List.forall_mem_cons.mpr ⟨zMk_177, List.forall_mem_cons.mpr ⟨zMk_178, List.forall_mem_cons.mpr ⟨zMk_179, List.forall_mem_cons.mpr ⟨zMk_180, List.forall_mem_cons.mpr ⟨zMk_181, List.forall_mem_cons.mpr ⟨zMk_182, List.forall_mem_cons.mpr ⟨zMk_183, List.forall_mem_cons.mpr ⟨zMk_184, List.forall_mem_cons.mpr ⟨zMk_185, List.forall_mem_cons.mpr ⟨zMk_186, List.forall_mem_cons.mpr ⟨zMk_187, List.forall_mem_cons.mpr ⟨zMk_188, List.forall_mem_cons.mpr ⟨zMk_189, List.forall_mem_cons.mpr ⟨zMk_190, List.forall_mem_cons.mpr ⟨zMk_191, List.forall_mem_cons.mpr ⟨zMk_192, List.forall_mem_cons.mpr ⟨zMk_193, List.forall_mem_cons.mpr ⟨zMk_194, List.forall_mem_cons.mpr ⟨zMk_195, List.forall_mem_cons.mpr ⟨zMk_196, List.forall_mem_cons.mpr ⟨zMk_197, List.forall_mem_cons.mpr ⟨zMk_198, List.forall_mem_cons.mpr ⟨zMk_199, List.forall_mem_cons.mpr ⟨zMk_200, List.forall_mem_cons.mpr ⟨zMk_201, List.forall_mem_cons.mpr ⟨zMk_202, List.forall_mem_cons.mpr ⟨zMk_203, List.forall_mem_cons.mpr ⟨zMk_204, List.forall_mem_cons.mpr ⟨zMk_207, List.forall_mem_cons.mpr ⟨zMk_208, List.forall_mem_cons.mpr ⟨zMk_209, List.forall_mem_cons.mpr ⟨zMk_210, List.forall_mem_cons.mpr ⟨zMk_211, List.forall_mem_cons.mpr ⟨zMk_212, List.forall_mem_cons.mpr ⟨zMk_213, List.forall_mem_cons.mpr ⟨zMk_214, List.forall_mem_cons.mpr ⟨zMk_215, List.forall_mem_cons.mpr ⟨zMk_216, List.forall_mem_cons.mpr ⟨zMk_217, fun _ h => absurd h List.not_mem_nil⟩⟩⟩⟩⟩⟩⟩⟩⟩⟩⟩⟩⟩⟩⟩⟩⟩⟩⟩⟩⟩⟩⟩⟩⟩⟩⟩⟩⟩⟩⟩⟩⟩⟩⟩⟩⟩⟩⟩⟩
theorem zKv_5 : ∀ r ∈ ([218, 219, 220, 221, 222, 223, 224, 225, 226, 227, 228, 229, 230, 231, 232, 233, 234, 235, 237, 238, 239, 240, 241, 242, 243, 244, 245, 246, 247, 248, 249, 250, 251, 252] : List Nat), zMv r := List.forall_mem_cons.mpr ⟨zMk_218, List.forall_mem_cons.mpr ⟨zMk_219, List.forall_mem_cons.mpr ⟨zMk_220, List.forall_mem_cons.mpr ⟨zMk_221, List.forall_mem_cons.mpr ⟨zMk_222, List.forall_mem_cons.mpr ⟨zMk_223, List.forall_mem_cons.mpr ⟨zMk_224, List.forall_mem_cons.mpr ⟨zMk_225, List.forall_mem_cons.mpr ⟨zMk_226, List.forall_mem_cons.mpr ⟨zMk_227, List.forall_mem_cons.mpr ⟨zMk_228, List.forall_mem_cons.mpr ⟨zMk_229, List.forall_mem_cons.mpr ⟨zMk_230, List.forall_mem_cons.mpr ⟨zMk_231, List.forall_mem_cons.mpr ⟨zMk_232, List.forall_mem_cons.mpr ⟨zMk_233, List.forall_mem_cons.mpr ⟨zMk_234, List.forall_mem_cons.mpr ⟨zMk_235, List.forall_mem_cons.mpr ⟨zMk_237, List.forall_mem_cons.mpr ⟨zMk_238, List.forall_mem_cons.mpr ⟨zMk_239, List.forall_mem_cons.mpr ⟨zMk_240, List.forall_mem_cons.mpr ⟨zMk_241, List.forall_mem_cons.mpr ⟨zMk_242, List.forall_mem_cons.mpr ⟨zMk_243, List.forall_mem_cons.mpr ⟨zMk_244, List.forall_mem_cons.mpr ⟨zMk_245, List.forall_mem_cons.mpr ⟨zMk_246, List.forall_mem_cons.mpr ⟨zMk_247, List.forall_mem_cons.mpr ⟨zMk_248, List.forall_mem_cons.mpr ⟨zMk_249, List.forall_mem_cons.mpr ⟨zMk_250, List.forall_mem_cons.mpr ⟨zMk_251, List.forall_mem_cons.mpr ⟨zMk_252, fun _ h => absurd h List.not_mem_nil⟩⟩⟩⟩⟩⟩⟩⟩⟩⟩⟩⟩⟩⟩⟩⟩⟩⟩⟩⟩⟩⟩⟩⟩⟩⟩⟩⟩⟩⟩⟩⟩⟩⟩
theorem zKv_ok : ∀ r ∈ zKv, zMv r := by
  intro r h
  have e : zKv = [1, 2, 3, 4, 5, 6, 7, 9, 10, 11, 12, 13, 14, 15, 16, 17, 18, 19, 20, 21, 22, 24, 25, 26, 27, 29, 30, 31, 32, 33, 34, 35, 36, 38, 39, 40, 41, 42, 43, 44] ++ ([45, 46, 47, 48, 49, 50, 52, 53, 54, 55, 56, 57, 58, 59, 60, 61, 62, 63, 64, 65, 66, 67, 68, 70, 71, 73, 74, 75, 76, 77, 78, 79, 80, 81, 83, 84, 85, 86, 87, 88] ++ ([89, 90, 91, 92, 93, 94, 95, 96, 97, 98, 99, 100, 101, 102, 103, 104, 105, 106, 107, 108, 109, 110, 111, 113, 114, 115, 116, 117, 118, 119, 120, 121, 122, 123, 124, 125, 126, 127, 128, 129] ++ ([130, 131, 132, 133, 134, 135, 136, 137, 138, 139, 140, 141, 142, 143, 144, 145, 146, 147, 148, 151, 152, 155, 156, 159, 160, 161, 162, 163, 164, 165, 166, 167, 168, 169, 170, 171, 172, 173, 174, 175] ++ ([176, 177, 178, 179, 180, 181, 182, 183, 184, 185, 186, 187, 188, 189, 190, 191, 192, 193, 194, 195, 196, 197, 198, 199, 200, 201, 202, 203, 204, 207, 208, 209, 210, 211, 212, 213, 214, 215, 216, 217] ++ ([218, 219, 220, 221, 222, 223, 224, 225, 226, 227, 228, 229, 230, 231, 232, 233, 234, 235, 237, 238, 239, 240, 241, 242, 243, 244, 245, 246, 247, 248, 249, 250, 251, 252]))))) := rfl
  rw [e] at h
  simp only [List.mem_append] at h
  rcases h with h | h | h | h | h | h
  · exact zKv_0 r h
  · exact zKv_1 r h
  · exact zKv_2 r h
  · exact zKv_3 r h
  · exact zKv_4 r h
  · exact zKv_5 r h
def zKs : List Nat := [149, 150, 153, 157, 158, 205, 206, 236, 253, 254]
theorem zKs_0 : ∀ r ∈ ([149, 150, 153, 157, 158, 205, 206, 236, 253, 254] : List Nat), zMs r := List.forall_mem_cons.mpr ⟨zMk_149, List.forall_mem_cons.mpr ⟨zMk_150, List.forall_mem_cons.mpr ⟨zMk_153, List.forall_mem_cons.mpr ⟨zMk_157, List.forall_mem_cons.mpr ⟨zMk_158, List.forall_mem_cons.mpr ⟨zMk_205, List.forall_mem_cons.mpr ⟨zMk_206, List.forall_mem_cons.mpr ⟨zMk_236, List.forall_mem_cons.mpr ⟨zMk_253, List.forall_mem_cons.mpr ⟨zMk_254, fun _ h => absurd h List.not_mem_nil⟩⟩⟩⟩⟩⟩⟩⟩⟩⟩
theorem zKs_ok : ∀ r ∈ zKs, zMs r := zKs_0
def zKi : List Nat := [0, 8, 23, 28, 37, 51, 69, 72, 82, 112, 154]
theorem zKi_0 : ∀ r ∈ ([0, 8, 23, 28, 37, 51, 69, 72, 82, 112, 154] : List Nat), zMi r := List.forall_mem_cons.mpr ⟨zMk_0, List.forall_mem_cons.mpr ⟨zMk_8, List.forall_mem_cons.mpr ⟨zMk_23, List.forall_mem_cons.mpr ⟨zMk_28, List.forall_mem_cons.mpr ⟨zMk_37, List.forall_mem_cons.mpr ⟨zMk_51, List.forall_mem_cons.mpr ⟨zMk_69, List.forall_mem_cons.mpr ⟨zMk_72, List.forall_mem_cons.mpr ⟨zMk_82, List.forall_mem_cons.mpr ⟨zMk_112, List.forall_mem_cons.mpr ⟨zMk_154, fun _ h => absurd h List.not_mem_nil⟩⟩⟩⟩⟩⟩⟩⟩⟩⟩⟩
theorem zKi_ok : ∀ r ∈ zKi, zMi r := zKi_0
theorem zAI : Cond.arrayClass .int ∈ zBG ∧ Cond.arrayClass .boolean ∈ zBG ∧ Cond.arrayClass .byte ∈ zBG := ⟨zT_1 123 (by decide +kernel) rfl, zT_6 95 (by decide +kernel) rfl, zT_1 49 (by decide +kernel) rfl⟩
theorem zAC : Cond.native arraycopyName ∈ zBG ∧ Cond.static arraycopyName ∈ zBG ∧ Cond.initialized "java/lang/System" ∈ zBG := ⟨zT_3 106 (by decide +kernel) rfl, zT_3 105 (by decide +kernel) rfl, zT_1 18 (by decide +kernel) rfl⟩
theorem zMM : (Cond.static Lib.Math.max.name ∈ zBG ∧ Cond.code Lib.Math.max.name Lib.Math.max.code 2 (some .int) ∈ zBG) ∧ (Cond.static Lib.Math.min.name ∈ zBG ∧ Cond.code Lib.Math.min.name Lib.Math.min.code 2 (some .int) ∈ zBG) ∧ Cond.initialized "java/lang/Math" ∈ zBG := ⟨⟨zT_2 172 (by decide +kernel) rfl, zT_2 173 (by decide +kernel) rfl⟩, ⟨zT_2 169 (by decide +kernel) rfl, zT_2 170 (by decide +kernel) rfl⟩, zT_1 13 (by decide +kernel) rfl⟩
theorem zOB : Cond.instanceMethod objectInit ∈ zBG ∧ Cond.code objectInit ⟨#[0xb1]⟩ 1 none ∈ zBG := ⟨zT_1 31 (by decide +kernel) rfl, zT_1 32 (by decide +kernel) rfl⟩
