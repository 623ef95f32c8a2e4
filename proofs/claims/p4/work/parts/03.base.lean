/-- the words of the tables that go with every call: all methods share them -/
def lw_good : List Cond := lw_tbl.filter goodWord
abbrev wsM (y : MethodName) (b : ByteArray) (n : Nat) (r : Option FieldType) : List Cond := Cond.code y b n r :: lw_good
theorem mem_p {w : Cond} (i : Nat) (h : (k2_sels lw_privs)[i]? = some w) (g : goodWord w = true) : w ∈ lw_good := List.mem_filter.mpr ⟨List.mem_append_left _ (List.mem_of_getElem? h), g⟩
theorem mem_t1 {w : Cond} (i : Nat) (h : tables_1_1[i]? = some w) (g : goodWord w = true) : w ∈ lw_good := List.mem_filter.mpr ⟨List.mem_append_right _ (show w ∈ tables_1 from List.mem_append_left _ (List.mem_of_getElem? h)), g⟩
theorem mem_t2 {w : Cond} (i : Nat) (h : tables_1_2[i]? = some w) (g : goodWord w = true) : w ∈ lw_good := List.mem_filter.mpr ⟨List.mem_append_right _ (show w ∈ tables_1 from List.mem_append_right _ (List.mem_append_left _ (List.mem_of_getElem? h))), g⟩
theorem mem_t3 {w : Cond} (i : Nat) (h : tables_1_3[i]? = some w) (g : goodWord w = true) : w ∈ lw_good := List.mem_filter.mpr ⟨List.mem_append_right _ (show w ∈ tables_1 from List.mem_append_right _ (List.mem_append_right _ (List.mem_append_left _ (List.mem_of_getElem? h)))), g⟩
theorem mem_t4 {w : Cond} (i : Nat) (h : tables_1_4[i]? = some w) (g : goodWord w = true) : w ∈ lw_good := List.mem_filter.mpr ⟨List.mem_append_right _ (show w ∈ tables_1 from List.mem_append_right _ (List.mem_append_right _ (List.mem_append_right _ (List.mem_append_left _ (List.mem_of_getElem? h))))), g⟩
theorem mem_t5 {w : Cond} (i : Nat) (h : tables_1_5[i]? = some w) (g : goodWord w = true) : w ∈ lw_good := List.mem_filter.mpr ⟨List.mem_append_right _ (show w ∈ tables_1 from List.mem_append_right _ (List.mem_append_right _ (List.mem_append_right _ (List.mem_append_right _ (List.mem_append_left _ (List.mem_of_getElem? h)))))), g⟩
theorem mem_t6 {w : Cond} (i : Nat) (h : tables_1_6[i]? = some w) (g : goodWord w = true) : w ∈ lw_good := List.mem_filter.mpr ⟨List.mem_append_right _ (show w ∈ tables_1 from List.mem_append_right _ (List.mem_append_right _ (List.mem_append_right _ (List.mem_append_right _ (List.mem_append_right _ (List.mem_append_left _ (List.mem_of_getElem? h))))))), g⟩
theorem mem_t7 {w : Cond} (i : Nat) (h : tables_1_7[i]? = some w) (g : goodWord w = true) : w ∈ lw_good := List.mem_filter.mpr ⟨List.mem_append_right _ (show w ∈ tables_1 from List.mem_append_right _ (List.mem_append_right _ (List.mem_append_right _ (List.mem_append_right _ (List.mem_append_right _ (List.mem_append_right _ (List.mem_of_getElem? h))))))), g⟩
theorem good_at {w : Cond} (h : w ∈ lw_good) : w ∈ lw_good ∧ ((w.onTables && w.keeps) = true ∨ ∃ ty, w = .arrayClass ty) := ⟨h, good_of_word (List.mem_filter.mp h).2⟩
theorem gB {y : MethodName} {b : ByteArray} {n : Nat} {r : Option FieldType} (h : Cond.code y b n r ∈ lw_good) : GoodIn lw_good (wsM y b n r) := fun _ hw => (List.mem_cons.mp hw).elim (fun e => by rw [e]; exact good_at h) good_at
theorem gV {own C : String} {idx : Nat} {y : MethodName} {b : ByteArray} {n : Nat} {r : Option FieldType} (h1 : Cond.methodLink own idx y ∈ lw_good) (h2 : Cond.instanceMethod y ∈ lw_good) (h3 : Cond.selects C y y ∈ lw_good) (h4 : Cond.initialized C ∈ lw_good) (h5 : Cond.code y b n r ∈ lw_good) : GoodIn lw_good (wsV own idx C y (wsM y b n r)) := fun w hw => by
  rcases List.mem_append.mp hw with hw | hw
  · simp only [List.mem_cons, List.not_mem_nil, or_false] at hw
    rcases hw with rfl | rfl | rfl | rfl
    · exact good_at h1
    · exact good_at h2
    · exact good_at h3
    · exact good_at h4
  · exact gB h5 w hw
theorem gS {own : String} {idx : Nat} {y : MethodName} {b : ByteArray} {n : Nat} {r : Option FieldType} (h1 : Cond.methodLink own idx y ∈ lw_good) (h2 : Cond.static y ∈ lw_good) (h4 : Cond.initialized y.cls ∈ lw_good) (h5 : Cond.code y b n r ∈ lw_good) : GoodIn lw_good (va_wsS own idx y (wsM y b n r)) := fun w hw => by
  rcases List.mem_append.mp hw with hw | hw
  · simp only [List.mem_cons, List.not_mem_nil, or_false] at hw
    rcases hw with rfl | rfl | rfl
    · exact good_at h1
    · exact good_at h2
    · exact good_at h4
  · exact gB h5 w hw
theorem wd_obj : Cond.code Lib.objectInit ⟨#[0xb1]⟩ 1 none ∈ lw_good := mem_t1 25 rfl rfl
theorem inG0 : ∀ w ∈ u_ws RX0 TX0 5, w ∈ lw_good := show ∀ w ∈ [u_lay RX0 TX0 0, u_lay RX0 TX0 1, u_lay RX0 TX0 2, u_lay RX0 TX0 3, u_lay RX0 TX0 4], w ∈ lw_good from List.forall_mem_cons.mpr ⟨mem_t1 197 (by decide +kernel) rfl, List.forall_mem_cons.mpr ⟨mem_t1 199 (by decide +kernel) rfl, List.forall_mem_cons.mpr ⟨mem_t1 201 (by decide +kernel) rfl, List.forall_mem_cons.mpr ⟨mem_t1 203 (by decide +kernel) rfl, List.forall_mem_cons.mpr ⟨mem_t1 205 (by decide +kernel) rfl, fun _ h => absurd h List.not_mem_nil⟩⟩⟩⟩⟩
theorem dfX0 : ∀ j, j < 5 → defaultValue (tyX0 j) = vp_V [.null, .null, .null, .int 0, .long 0] j := fun j hj => match j, hj with
  | 0, _ => rfl
  | 1, _ => rfl
  | 2, _ => rfl
  | 3, _ => rfl
  | 4, _ => rfl
  | _ + 5, h => absurd h (by omega)
theorem inG1 : ∀ w ∈ u_ws RX1 TX1 4, w ∈ lw_good := show ∀ w ∈ [u_lay RX1 TX1 0, u_lay RX1 TX1 1, u_lay RX1 TX1 2, u_lay RX1 TX1 3], w ∈ lw_good from List.forall_mem_cons.mpr ⟨mem_t1 156 (by decide +kernel) rfl, List.forall_mem_cons.mpr ⟨mem_t1 158 (by decide +kernel) rfl, List.forall_mem_cons.mpr ⟨mem_t1 160 (by decide +kernel) rfl, List.forall_mem_cons.mpr ⟨mem_t1 162 (by decide +kernel) rfl, fun _ h => absurd h List.not_mem_nil⟩⟩⟩⟩
theorem dfX1 : ∀ j, j < 4 → defaultValue (tyX1 j) = vp_V [.null, .null, .null, .int 0] j := fun j hj => match j, hj with
  | 0, _ => rfl
  | 1, _ => rfl
  | 2, _ => rfl
  | 3, _ => rfl
  | _ + 4, h => absurd h (by omega)
theorem inG2 : ∀ w ∈ u_ws RX2 TX2 20, w ∈ lw_good := show ∀ w ∈ [u_lay RX2 TX2 0, u_lay RX2 TX2 1, u_lay RX2 TX2 2, u_lay RX2 TX2 3, u_lay RX2 TX2 4, u_lay RX2 TX2 5, u_lay RX2 TX2 6, u_lay RX2 TX2 7, u_lay RX2 TX2 8, u_lay RX2 TX2 9, u_lay RX2 TX2 10, u_lay RX2 TX2 11, u_lay RX2 TX2 12, u_lay RX2 TX2 13, u_lay RX2 TX2 14, u_lay RX2 TX2 15, u_lay RX2 TX2 16, u_lay RX2 TX2 17, u_lay RX2 TX2 18, u_lay RX2 TX2 19], w ∈ lw_good from List.forall_mem_cons.mpr ⟨mem_t2 14 (by decide +kernel) rfl, List.forall_mem_cons.mpr ⟨mem_t2 16 (by decide +kernel) rfl, List.forall_mem_cons.mpr ⟨mem_t2 18 (by decide +kernel) rfl, List.forall_mem_cons.mpr ⟨mem_t2 20 (by decide +kernel) rfl, List.forall_mem_cons.mpr ⟨mem_t2 22 (by decide +kernel) rfl, List.forall_mem_cons.mpr ⟨mem_t2 24 (by decide +kernel) rfl, List.forall_mem_cons.mpr ⟨mem_t2 26 (by decide +kernel) rfl, List.forall_mem_cons.mpr ⟨mem_t2 28 (by decide +kernel) rfl, List.forall_mem_cons.mpr ⟨mem_t2 30 (by decide +kernel) rfl, List.forall_mem_cons.mpr ⟨mem_t2 32 (by decide +kernel) rfl, List.forall_mem_cons.mpr ⟨mem_t2 34 (by decide +kernel) rfl, List.forall_mem_cons.mpr ⟨mem_t2 36 (by decide +kernel) rfl, List.forall_mem_cons.mpr ⟨mem_t2 38 (by decide +kernel) rfl, List.forall_mem_cons.mpr ⟨mem_t2 40 (by decide +kernel) rfl, List.forall_mem_cons.mpr ⟨mem_t2 42 (by decide +kernel) rfl, List.forall_mem_cons.mpr ⟨mem_t2 44 (by decide +kernel) rfl, List.forall_mem_cons.mpr ⟨mem_t2 46 (by decide +kernel) rfl, List.forall_mem_cons.mpr ⟨mem_t2 48 (by decide +kernel) rfl, List.forall_mem_cons.mpr ⟨mem_t2 50 (by decide +kernel) rfl, List.forall_mem_cons.mpr ⟨mem_t2 52 (by decide +kernel) rfl, fun _ h => absurd h List.not_mem_nil⟩⟩⟩⟩⟩⟩⟩⟩⟩⟩⟩⟩⟩⟩⟩⟩⟩⟩⟩⟩
theorem dfX2 : ∀ j, j < 20 → defaultValue (tyX2 j) = vp_V [.int 0, .int 0, .int 0, .null, .int 0, .int 0, .null, .null, .null, .int 0, .null, .int 0, .null, .null, .long 0, .int 0, .null, .null, .null, .null] j := fun j hj => match j, hj with
  | 0, _ => rfl
  | 1, _ => rfl
  | 2, _ => rfl
  | 3, _ => rfl
  | 4, _ => rfl
  | 5, _ => rfl
  | 6, _ => rfl
  | 7, _ => rfl
  | 8, _ => rfl
  | 9, _ => rfl
  | 10, _ => rfl
  | 11, _ => rfl
  | 12, _ => rfl
  | 13, _ => rfl
  | 14, _ => rfl
  | 15, _ => rfl
  | 16, _ => rfl
  | 17, _ => rfl
  | 18, _ => rfl
  | 19, _ => rfl
  | _ + 20, h => absurd h (by omega)
theorem inG3 : ∀ w ∈ u_ws RX3 TX3 3, w ∈ lw_good := show ∀ w ∈ [u_lay RX3 TX3 0, u_lay RX3 TX3 1, u_lay RX3 TX3 2], w ∈ lw_good from List.forall_mem_cons.mpr ⟨mem_t3 96 (by decide +kernel) rfl, List.forall_mem_cons.mpr ⟨mem_t3 98 (by decide +kernel) rfl, List.forall_mem_cons.mpr ⟨mem_t3 100 (by decide +kernel) rfl, fun _ h => absurd h List.not_mem_nil⟩⟩⟩
theorem dfX3 : ∀ j, j < 3 → defaultValue (tyX3 j) = vp_V [.int 0, .null, .int 0] j := fun j hj => match j, hj with
  | 0, _ => rfl
  | 1, _ => rfl
  | 2, _ => rfl
  | _ + 3, h => absurd h (by omega)
theorem inG4 : ∀ w ∈ u_ws RX4 TX4 4, w ∈ lw_good := show ∀ w ∈ [u_lay RX4 TX4 0, u_lay RX4 TX4 1, u_lay RX4 TX4 2, u_lay RX4 TX4 3], w ∈ lw_good from List.forall_mem_cons.mpr ⟨mem_t2 88 (by decide +kernel) rfl, List.forall_mem_cons.mpr ⟨mem_t2 90 (by decide +kernel) rfl, List.forall_mem_cons.mpr ⟨mem_t2 92 (by decide +kernel) rfl, List.forall_mem_cons.mpr ⟨mem_t2 94 (by decide +kernel) rfl, fun _ h => absurd h List.not_mem_nil⟩⟩⟩⟩
theorem dfX4 : ∀ j, j < 4 → defaultValue (tyX4 j) = vp_V [.int 0, .int 0, .int 0, .null] j := fun j hj => match j, hj with
  | 0, _ => rfl
  | 1, _ => rfl
  | 2, _ => rfl
  | 3, _ => rfl
  | _ + 4, h => absurd h (by omega)
theorem inG5 : ∀ w ∈ u_ws RX5 TX5 3, w ∈ lw_good := show ∀ w ∈ [u_lay RX5 TX5 0, u_lay RX5 TX5 1, u_lay RX5 TX5 2], w ∈ lw_good from List.forall_mem_cons.mpr ⟨mem_t1 72 (by decide +kernel) rfl, List.forall_mem_cons.mpr ⟨mem_t1 74 (by decide +kernel) rfl, List.forall_mem_cons.mpr ⟨mem_t1 76 (by decide +kernel) rfl, fun _ h => absurd h List.not_mem_nil⟩⟩⟩
theorem dfX5 : ∀ j, j < 3 → defaultValue (tyX5 j) = vp_V [.null, .null, .int 0] j := fun j hj => match j, hj with
  | 0, _ => rfl
  | 1, _ => rfl
  | 2, _ => rfl
  | _ + 3, h => absurd h (by omega)
theorem inG6 : ∀ w ∈ u_ws RX6 TX6 3, w ∈ lw_good := show ∀ w ∈ [u_lay RX6 TX6 0, u_lay RX6 TX6 1, u_lay RX6 TX6 2], w ∈ lw_good from List.forall_mem_cons.mpr ⟨mem_t3 61 (by decide +kernel) rfl, List.forall_mem_cons.mpr ⟨mem_t3 63 (by decide +kernel) rfl, List.forall_mem_cons.mpr ⟨mem_t3 65 (by decide +kernel) rfl, fun _ h => absurd h List.not_mem_nil⟩⟩⟩
theorem dfX6 : ∀ j, j < 3 → defaultValue (tyX6 j) = vp_V [.int 0, .int 0, .null] j := fun j hj => match j, hj with
  | 0, _ => rfl
  | 1, _ => rfl
  | 2, _ => rfl
  | _ + 3, h => absurd h (by omega)
theorem inG7 : ∀ w ∈ u_ws RX7 TX7 6, w ∈ lw_good := show ∀ w ∈ [u_lay RX7 TX7 0, u_lay RX7 TX7 1, u_lay RX7 TX7 2, u_lay RX7 TX7 3, u_lay RX7 TX7 4, u_lay RX7 TX7 5], w ∈ lw_good from List.forall_mem_cons.mpr ⟨mem_t1 49 (by decide +kernel) rfl, List.forall_mem_cons.mpr ⟨mem_t1 51 (by decide +kernel) rfl, List.forall_mem_cons.mpr ⟨mem_t1 53 (by decide +kernel) rfl, List.forall_mem_cons.mpr ⟨mem_t1 55 (by decide +kernel) rfl, List.forall_mem_cons.mpr ⟨mem_t1 57 (by decide +kernel) rfl, List.forall_mem_cons.mpr ⟨mem_t1 59 (by decide +kernel) rfl, fun _ h => absurd h List.not_mem_nil⟩⟩⟩⟩⟩⟩
theorem dfX7 : ∀ j, j < 6 → defaultValue (tyX7 j) = vp_V [.null, .null, .null, .null, .null, .int 0] j := fun j hj => match j, hj with
  | 0, _ => rfl
  | 1, _ => rfl
  | 2, _ => rfl
  | 3, _ => rfl
  | 4, _ => rfl
  | 5, _ => rfl
  | _ + 6, h => absurd h (by omega)
theorem inG8 : ∀ w ∈ u_ws RX8 TX8 6, w ∈ lw_good := show ∀ w ∈ [u_lay RX8 TX8 0, u_lay RX8 TX8 1, u_lay RX8 TX8 2, u_lay RX8 TX8 3, u_lay RX8 TX8 4, u_lay RX8 TX8 5], w ∈ lw_good from List.forall_mem_cons.mpr ⟨mem_t4 35 (by decide +kernel) rfl, List.forall_mem_cons.mpr ⟨mem_t4 37 (by decide +kernel) rfl, List.forall_mem_cons.mpr ⟨mem_t4 39 (by decide +kernel) rfl, List.forall_mem_cons.mpr ⟨mem_t4 41 (by decide +kernel) rfl, List.forall_mem_cons.mpr ⟨mem_t4 43 (by decide +kernel) rfl, List.forall_mem_cons.mpr ⟨mem_t4 45 (by decide +kernel) rfl, fun _ h => absurd h List.not_mem_nil⟩⟩⟩⟩⟩⟩
theorem dfX8 : ∀ j, j < 6 → defaultValue (tyX8 j) = vp_V [.null, .null, .int 0, .int 0, .long 0, .long 0] j := fun j hj => match j, hj with
  | 0, _ => rfl
  | 1, _ => rfl
  | 2, _ => rfl
  | 3, _ => rfl
  | 4, _ => rfl
  | 5, _ => rfl
  | _ + 6, h => absurd h (by omega)
theorem inG9 : ∀ w ∈ u_ws RX9 TX9 16, w ∈ lw_good := show ∀ w ∈ [u_lay RX9 TX9 0, u_lay RX9 TX9 1, u_lay RX9 TX9 2, u_lay RX9 TX9 3, u_lay RX9 TX9 4, u_lay RX9 TX9 5, u_lay RX9 TX9 6, u_lay RX9 TX9 7, u_lay RX9 TX9 8, u_lay RX9 TX9 9, u_lay RX9 TX9 10, u_lay RX9 TX9 11, u_lay RX9 TX9 12, u_lay RX9 TX9 13, u_lay RX9 TX9 14, u_lay RX9 TX9 15], w ∈ lw_good from List.forall_mem_cons.mpr ⟨mem_t2 224 (by decide +kernel) rfl, List.forall_mem_cons.mpr ⟨mem_t2 226 (by decide +kernel) rfl, List.forall_mem_cons.mpr ⟨mem_t2 228 (by decide +kernel) rfl, List.forall_mem_cons.mpr ⟨mem_t2 230 (by decide +kernel) rfl, List.forall_mem_cons.mpr ⟨mem_t2 232 (by decide +kernel) rfl, List.forall_mem_cons.mpr ⟨mem_t2 234 (by decide +kernel) rfl, List.forall_mem_cons.mpr ⟨mem_t2 236 (by decide +kernel) rfl, List.forall_mem_cons.mpr ⟨mem_t2 238 (by decide +kernel) rfl, List.forall_mem_cons.mpr ⟨mem_t3 0 (by decide +kernel) rfl, List.forall_mem_cons.mpr ⟨mem_t3 2 (by decide +kernel) rfl, List.forall_mem_cons.mpr ⟨mem_t3 4 (by decide +kernel) rfl, List.forall_mem_cons.mpr ⟨mem_t3 6 (by decide +kernel) rfl, List.forall_mem_cons.mpr ⟨mem_t3 8 (by decide +kernel) rfl, List.forall_mem_cons.mpr ⟨mem_t3 10 (by decide +kernel) rfl, List.forall_mem_cons.mpr ⟨mem_t3 12 (by decide +kernel) rfl, List.forall_mem_cons.mpr ⟨mem_t3 14 (by decide +kernel) rfl, fun _ h => absurd h List.not_mem_nil⟩⟩⟩⟩⟩⟩⟩⟩⟩⟩⟩⟩⟩⟩⟩⟩
theorem dfX9 : ∀ j, j < 16 → defaultValue (tyX9 j) = vp_V [.int 0, .null, .int 0, .int 0, .int 0, .int 0, .int 0, .int 0, .null, .long 0, .long 0, .long 0, .long 0, .long 0, .long 0, .long 0] j := fun j hj => match j, hj with
  | 0, _ => rfl
  | 1, _ => rfl
  | 2, _ => rfl
  | 3, _ => rfl
  | 4, _ => rfl
  | 5, _ => rfl
  | 6, _ => rfl
  | 7, _ => rfl
  | 8, _ => rfl
  | 9, _ => rfl
  | 10, _ => rfl
  | 11, _ => rfl
  | 12, _ => rfl
  | 13, _ => rfl
  | 14, _ => rfl
  | 15, _ => rfl
  | _ + 16, h => absurd h (by omega)
theorem inG10 : ∀ w ∈ u_ws RX10 TX10 3, w ∈ lw_good := show ∀ w ∈ [u_lay RX10 TX10 0, u_lay RX10 TX10 1, u_lay RX10 TX10 2], w ∈ lw_good from List.forall_mem_cons.mpr ⟨mem_t1 175 (by decide +kernel) rfl, List.forall_mem_cons.mpr ⟨mem_t1 177 (by decide +kernel) rfl, List.forall_mem_cons.mpr ⟨mem_t1 179 (by decide +kernel) rfl, fun _ h => absurd h List.not_mem_nil⟩⟩⟩
theorem dfX10 : ∀ j, j < 3 → defaultValue (tyX10 j) = vp_V [.null, .int 0, .int 0] j := fun j hj => match j, hj with
  | 0, _ => rfl
  | 1, _ => rfl
  | 2, _ => rfl
  | _ + 3, h => absurd h (by omega)
theorem inG11 : ∀ w ∈ u_ws RX11 TX11 11, w ∈ lw_good := show ∀ w ∈ [u_lay RX11 TX11 0, u_lay RX11 TX11 1, u_lay RX11 TX11 2, u_lay RX11 TX11 3, u_lay RX11 TX11 4, u_lay RX11 TX11 5, u_lay RX11 TX11 6, u_lay RX11 TX11 7, u_lay RX11 TX11 8, u_lay RX11 TX11 9, u_lay RX11 TX11 10], w ∈ lw_good from List.forall_mem_cons.mpr ⟨mem_t1 91 (by decide +kernel) rfl, List.forall_mem_cons.mpr ⟨mem_t1 93 (by decide +kernel) rfl, List.forall_mem_cons.mpr ⟨mem_t1 95 (by decide +kernel) rfl, List.forall_mem_cons.mpr ⟨mem_t1 97 (by decide +kernel) rfl, List.forall_mem_cons.mpr ⟨mem_t1 99 (by decide +kernel) rfl, List.forall_mem_cons.mpr ⟨mem_t1 101 (by decide +kernel) rfl, List.forall_mem_cons.mpr ⟨mem_t1 103 (by decide +kernel) rfl, List.forall_mem_cons.mpr ⟨mem_t1 105 (by decide +kernel) rfl, List.forall_mem_cons.mpr ⟨mem_t1 107 (by decide +kernel) rfl, List.forall_mem_cons.mpr ⟨mem_t1 109 (by decide +kernel) rfl, List.forall_mem_cons.mpr ⟨mem_t1 111 (by decide +kernel) rfl, fun _ h => absurd h List.not_mem_nil⟩⟩⟩⟩⟩⟩⟩⟩⟩⟩⟩
theorem dfX11 : ∀ j, j < 11 → defaultValue (tyX11 j) = vp_V [.null, .int 0, .null, .int 0, .null, .null, .null, .int 0, .null, .int 0, .int 0] j := fun j hj => match j, hj with
  | 0, _ => rfl
  | 1, _ => rfl
  | 2, _ => rfl
  | 3, _ => rfl
  | 4, _ => rfl
  | 5, _ => rfl
  | 6, _ => rfl
  | 7, _ => rfl
  | 8, _ => rfl
  | 9, _ => rfl
  | 10, _ => rfl
  | _ + 11, h => absurd h (by omega)
theorem inG12 : ∀ w ∈ u_ws RX12 TX12 51, w ∈ lw_good := show ∀ w ∈ [u_lay RX12 TX12 0, u_lay RX12 TX12 1, u_lay RX12 TX12 2, u_lay RX12 TX12 3, u_lay RX12 TX12 4, u_lay RX12 TX12 5, u_lay RX12 TX12 6, u_lay RX12 TX12 7, u_lay RX12 TX12 8, u_lay RX12 TX12 9, u_lay RX12 TX12 10, u_lay RX12 TX12 11, u_lay RX12 TX12 12, u_lay RX12 TX12 13, u_lay RX12 TX12 14, u_lay RX12 TX12 15, u_lay RX12 TX12 16, u_lay RX12 TX12 17, u_lay RX12 TX12 18, u_lay RX12 TX12 19, u_lay RX12 TX12 20, u_lay RX12 TX12 21, u_lay RX12 TX12 22, u_lay RX12 TX12 23, u_lay RX12 TX12 24, u_lay RX12 TX12 25, u_lay RX12 TX12 26, u_lay RX12 TX12 27, u_lay RX12 TX12 28, u_lay RX12 TX12 29, u_lay RX12 TX12 30, u_lay RX12 TX12 31, u_lay RX12 TX12 32, u_lay RX12 TX12 33, u_lay RX12 TX12 34, u_lay RX12 TX12 35, u_lay RX12 TX12 36, u_lay RX12 TX12 37, u_lay RX12 TX12 38, u_lay RX12 TX12 39, u_lay RX12 TX12 40, u_lay RX12 TX12 41, u_lay RX12 TX12 42, u_lay RX12 TX12 43, u_lay RX12 TX12 44, u_lay RX12 TX12 45, u_lay RX12 TX12 46, u_lay RX12 TX12 47, u_lay RX12 TX12 48, u_lay RX12 TX12 49, u_lay RX12 TX12 50], w ∈ lw_good from List.forall_mem_cons.mpr ⟨mem_t5 197 (by decide +kernel) rfl, List.forall_mem_cons.mpr ⟨mem_t5 199 (by decide +kernel) rfl, List.forall_mem_cons.mpr ⟨mem_t5 201 (by decide +kernel) rfl, List.forall_mem_cons.mpr ⟨mem_t5 203 (by decide +kernel) rfl, List.forall_mem_cons.mpr ⟨mem_t5 205 (by decide +kernel) rfl, List.forall_mem_cons.mpr ⟨mem_t5 207 (by decide +kernel) rfl, List.forall_mem_cons.mpr ⟨mem_t5 209 (by decide +kernel) rfl, List.forall_mem_cons.mpr ⟨mem_t5 211 (by decide +kernel) rfl, List.forall_mem_cons.mpr ⟨mem_t5 213 (by decide +kernel) rfl, List.forall_mem_cons.mpr ⟨mem_t5 215 (by decide +kernel) rfl, List.forall_mem_cons.mpr ⟨mem_t5 217 (by decide +kernel) rfl, List.forall_mem_cons.mpr ⟨mem_t5 219 (by decide +kernel) rfl, List.forall_mem_cons.mpr ⟨mem_t5 221 (by decide +kernel) rfl, List.forall_mem_cons.mpr ⟨mem_t5 223 (by decide +kernel) rfl, List.forall_mem_cons.mpr ⟨mem_t5 225 (by decide +kernel) rfl, List.forall_mem_cons.mpr ⟨mem_t5 227 (by decide +kernel) rfl, List.forall_mem_cons.mpr ⟨mem_t5 229 (by decide +kernel) rfl, List.forall_mem_cons.mpr ⟨mem_t5 231 (by decide +kernel) rfl, List.forall_mem_cons.mpr ⟨mem_t5 233 (by decide +kernel) rfl, List.forall_mem_cons.mpr ⟨mem_t5 235 (by decide +kernel) rfl, List.forall_mem_cons.mpr ⟨mem_t5 237 (by decide +kernel) rfl, List.forall_mem_cons.mpr ⟨mem_t5 239 (by decide +kernel) rfl, List.forall_mem_cons.mpr ⟨mem_t6 1 (by decide +kernel) rfl, List.forall_mem_cons.mpr ⟨mem_t6 3 (by decide +kernel) rfl, List.forall_mem_cons.mpr ⟨mem_t6 5 (by decide +kernel) rfl, List.forall_mem_cons.mpr ⟨mem_t6 7 (by decide +kernel) rfl, List.forall_mem_cons.mpr ⟨mem_t6 9 (by decide +kernel) rfl, List.forall_mem_cons.mpr ⟨mem_t6 11 (by decide +kernel) rfl, List.forall_mem_cons.mpr ⟨mem_t6 13 (by decide +kernel) rfl, List.forall_mem_cons.mpr ⟨mem_t6 15 (by decide +kernel) rfl, List.forall_mem_cons.mpr ⟨mem_t6 17 (by decide +kernel) rfl, List.forall_mem_cons.mpr ⟨mem_t6 19 (by decide +kernel) rfl, List.forall_mem_cons.mpr ⟨mem_t6 21 (by decide +kernel) rfl, List.forall_mem_cons.mpr ⟨mem_t6 23 (by decide +kernel) rfl, List.forall_mem_cons.mpr ⟨mem_t6 25 (by decide +kernel) rfl, List.forall_mem_cons.mpr ⟨mem_t6 27 (by decide +kernel) rfl, List.forall_mem_cons.mpr ⟨mem_t6 29 (by decide +kernel) rfl, List.forall_mem_cons.mpr ⟨mem_t6 31 (by decide +kernel) rfl, List.forall_mem_cons.mpr ⟨mem_t6 33 (by decide +kernel) rfl, List.forall_mem_cons.mpr ⟨mem_t6 35 (by decide +kernel) rfl, List.forall_mem_cons.mpr ⟨mem_t6 37 (by decide +kernel) rfl, List.forall_mem_cons.mpr ⟨mem_t6 39 (by decide +kernel) rfl, List.forall_mem_cons.mpr ⟨mem_t6 41 (by decide +kernel) rfl, List.forall_mem_cons.mpr ⟨mem_t6 43 (by decide +kernel) rfl, List.forall_mem_cons.mpr ⟨mem_t6 45 (by decide +kernel) rfl, List.forall_mem_cons.mpr ⟨mem_t6 47 (by decide +kernel) rfl, List.forall_mem_cons.mpr ⟨mem_t6 49 (by decide +kernel) rfl, List.forall_mem_cons.mpr ⟨mem_t6 51 (by decide +kernel) rfl, List.forall_mem_cons.mpr ⟨mem_t6 53 (by decide +kernel) rfl, List.forall_mem_cons.mpr ⟨mem_t6 55 (by decide +kernel) rfl, List.forall_mem_cons.mpr ⟨mem_t6 57 (by decide +kernel) rfl, fun _ h => absurd h List.not_mem_nil⟩⟩⟩⟩⟩⟩⟩⟩⟩⟩⟩⟩⟩⟩⟩⟩⟩⟩⟩⟩⟩⟩⟩⟩⟩⟩⟩⟩⟩⟩⟩⟩⟩⟩⟩⟩⟩⟩⟩⟩⟩⟩⟩⟩⟩⟩⟩⟩⟩⟩⟩
theorem dfX12 : ∀ j, j < 51 → defaultValue (tyX12 j) = vp_V [.int 0, .int 0, .null, .null, .null, .null, .null, .long 0, .long 0, .null, .int 0, .int 0, .int 0, .int 0, .int 0, .int 0, .int 0, .int 0, .int 0, .null, .null, .null, .null, .null, .null, .null, .null, .null, .null, .null, .null, .null, .null, .null, .null, .null, .null, .null, .null, .null, .null, .null, .null, .null, .null, .null, .null, .null, .null, .null, .null] j := fun j hj => match j, hj with
  | 0, _ => rfl
  | 1, _ => rfl
  | 2, _ => rfl
  | 3, _ => rfl
  | 4, _ => rfl
  | 5, _ => rfl
  | 6, _ => rfl
  | 7, _ => rfl
  | 8, _ => rfl
  | 9, _ => rfl
  | 10, _ => rfl
  | 11, _ => rfl
  | 12, _ => rfl
  | 13, _ => rfl
  | 14, _ => rfl
  | 15, _ => rfl
  | 16, _ => rfl
  | 17, _ => rfl
  | 18, _ => rfl
  | 19, _ => rfl
  | 20, _ => rfl
  | 21, _ => rfl
  | 22, _ => rfl
  | 23, _ => rfl
  | 24, _ => rfl
  | 25, _ => rfl
  | 26, _ => rfl
  | 27, _ => rfl
  | 28, _ => rfl
  | 29, _ => rfl
  | 30, _ => rfl
  | 31, _ => rfl
  | 32, _ => rfl
  | 33, _ => rfl
  | 34, _ => rfl
  | 35, _ => rfl
  | 36, _ => rfl
  | 37, _ => rfl
  | 38, _ => rfl
  | 39, _ => rfl
  | 40, _ => rfl
  | 41, _ => rfl
  | 42, _ => rfl
  | 43, _ => rfl
  | 44, _ => rfl
  | 45, _ => rfl
  | 46, _ => rfl
  | 47, _ => rfl
  | 48, _ => rfl
  | 49, _ => rfl
  | 50, _ => rfl
  | _ + 51, h => absurd h (by omega)
theorem inG13 : ∀ w ∈ u_ws RX13 TX13 20, w ∈ lw_good := show ∀ w ∈ [u_lay RX13 TX13 0, u_lay RX13 TX13 1, u_lay RX13 TX13 2, u_lay RX13 TX13 3, u_lay RX13 TX13 4, u_lay RX13 TX13 5, u_lay RX13 TX13 6, u_lay RX13 TX13 7, u_lay RX13 TX13 8, u_lay RX13 TX13 9, u_lay RX13 TX13 10, u_lay RX13 TX13 11, u_lay RX13 TX13 12, u_lay RX13 TX13 13, u_lay RX13 TX13 14, u_lay RX13 TX13 15, u_lay RX13 TX13 16, u_lay RX13 TX13 17, u_lay RX13 TX13 18, u_lay RX13 TX13 19], w ∈ lw_good from List.forall_mem_cons.mpr ⟨mem_t6 81 (by decide +kernel) rfl, List.forall_mem_cons.mpr ⟨mem_t6 83 (by decide +kernel) rfl, List.forall_mem_cons.mpr ⟨mem_t6 85 (by decide +kernel) rfl, List.forall_mem_cons.mpr ⟨mem_t6 87 (by decide +kernel) rfl, List.forall_mem_cons.mpr ⟨mem_t6 89 (by decide +kernel) rfl, List.forall_mem_cons.mpr ⟨mem_t6 91 (by decide +kernel) rfl, List.forall_mem_cons.mpr ⟨mem_t6 93 (by decide +kernel) rfl, List.forall_mem_cons.mpr ⟨mem_t6 95 (by decide +kernel) rfl, List.forall_mem_cons.mpr ⟨mem_t6 97 (by decide +kernel) rfl, List.forall_mem_cons.mpr ⟨mem_t6 99 (by decide +kernel) rfl, List.forall_mem_cons.mpr ⟨mem_t6 101 (by decide +kernel) rfl, List.forall_mem_cons.mpr ⟨mem_t6 103 (by decide +kernel) rfl, List.forall_mem_cons.mpr ⟨mem_t6 105 (by decide +kernel) rfl, List.forall_mem_cons.mpr ⟨mem_t6 107 (by decide +kernel) rfl, List.forall_mem_cons.mpr ⟨mem_t6 109 (by decide +kernel) rfl, List.forall_mem_cons.mpr ⟨mem_t6 111 (by decide +kernel) rfl, List.forall_mem_cons.mpr ⟨mem_t6 113 (by decide +kernel) rfl, List.forall_mem_cons.mpr ⟨mem_t6 115 (by decide +kernel) rfl, List.forall_mem_cons.mpr ⟨mem_t6 117 (by decide +kernel) rfl, List.forall_mem_cons.mpr ⟨mem_t6 119 (by decide +kernel) rfl, fun _ h => absurd h List.not_mem_nil⟩⟩⟩⟩⟩⟩⟩⟩⟩⟩⟩⟩⟩⟩⟩⟩⟩⟩⟩⟩
theorem dfX13 : ∀ j, j < 20 → defaultValue (tyX13 j) = vp_V [.int 0, .null, .int 0, .int 0, .int 0, .int 0, .null, .null, .null, .null, .int 0, .null, .null, .null, .null, .null, .int 0, .null, .int 0, .null] j := fun j hj => match j, hj with
  | 0, _ => rfl
  | 1, _ => rfl
  | 2, _ => rfl
  | 3, _ => rfl
  | 4, _ => rfl
  | 5, _ => rfl
  | 6, _ => rfl
  | 7, _ => rfl
  | 8, _ => rfl
  | 9, _ => rfl
  | 10, _ => rfl
  | 11, _ => rfl
  | 12, _ => rfl
  | 13, _ => rfl
  | 14, _ => rfl
  | 15, _ => rfl
  | 16, _ => rfl
  | 17, _ => rfl
  | 18, _ => rfl
  | 19, _ => rfl
  | _ + 20, h => absurd h (by omega)
/-- words on nest mates and on arrays of references: no list of words holds them, so a contract's start does -/
def nestWs : List Cond := [.methodLinkNest RX11 23 yX7_init RX11, .methodLinkNest RX11 30 yX5_init RX11, .methodLinkNest RX2 57 yX10_init RX11, .methodLinkNest RX2 88 yX11_isSeat RX11, .methodLinkNest RX2 81 yX11_isDay RX11, .methodLinkNest RX0 29 yX8_init RX11, .methodLinkNest RX4 25 yX11_isLimitedKind RX11, .methodLinkNest RX8 50 yX11_isSeat RX11, .methodLinkNest RX13 11 yX12_init RX13, .fieldLinkNest RX13 77 RX12 "first" "I" RX13, .fieldLinkNest RX13 80 RX12 "to" "I" RX13, .fieldLinkNest RX13 83 RX12 "places" "[I" RX13, .fieldLinkNest RX13 157 RX12 "told" "[I" RX13, .fieldLinkNest RX13 158 RX12 "sort" "[I" RX13, .fieldLinkNest RX13 167 RX12 "entry" "[J" RX13, .fieldLinkNest RX13 328 RX12 "income" "[J" RX13, .fieldLinkNest RX13 179 RX12 "loose" "J" RX13, .fieldLinkNest RX13 364 RX12 "nobody" "J" RX13, .fieldLinkNest RX13 92 RX12 "seat" "[I" RX13, .fieldLinkNest RX13 68 RX12 "tenures" "I" RX13, .fieldLinkNest RX13 142 RX12 "rules" "I" RX13, .fieldLinkNest RX13 233 RX12 "years" "I" RX13, .fieldLinkNest RX13 244 RX12 "closed" "I" RX13, .fieldLinkNest RX13 193 RX12 "moves" "I" RX13, .fieldLinkNest RX13 279 RX12 "mends" "I" RX13, .fieldLinkNest RX13 161 RX12 "undone" "I" RX13, .fieldLinkNest RX13 256 RX12 "stretches" "I" RX13, .fieldLinkNest RX13 288 RX12 "hasClosed" "Z" RX13, .fieldLinkNest RX13 72 RX12 "who" "[I" RX13, .fieldLinkNest RX13 110 RX12 "where" "[I" RX13, .fieldLinkNest RX13 112 RX12 "begin" "[I" RX13, .fieldLinkNest RX13 95 RX12 "ended" "[I" RX13, .fieldLinkNest RX13 115 RX12 "instalments" "[I" RX13, .fieldLinkNest RX13 118 RX12 "bears" "[I" RX13, .fieldLinkNest RX13 121 RX12 "heir" "[I" RX13, .fieldLinkNest RX13 124 RX12 "word" "[Z" RX13, .fieldLinkNest RX13 307 RX12 "credit" "[J" RX13, .fieldLinkNest RX13 370 RX12 "hidden" "[J" RX13, .fieldLinkNest RX13 230 RX12 "borne" "[J" RX13, .fieldLinkNest RX13 205 RX12 "lent" "[J" RX13, .fieldLinkNest RX13 373 RX12 "payable" "[J" RX13, .fieldLinkNest RX13 376 RX12 "paid" "[J" RX13, .fieldLinkNest RX13 259 RX12 "dues" "[J" RX13, .fieldLinkNest RX13 145 RX12 "ruleDay" "[I" RX13, .fieldLinkNest RX13 151 RX12 "thousandths" "[I" RX13, .fieldLinkNest RX13 148 RX12 "term" "[I" RX13, .fieldLinkNest RX13 236 RX12 "end" "[I" RX13, .fieldLinkNest RX13 196 RX12 "moveOf" "[I" RX13, .fieldLinkNest RX13 199 RX12 "moveDay" "[I" RX13, .fieldLinkNest RX13 202 RX12 "moveSum" "[I" RX13, .fieldLinkNest RX13 358 RX12 "mendDay" "[I" RX13, .fieldLinkNest RX13 361 RX12 "mendSum" "[I" RX13, .fieldLinkNest RX13 210 RX12 "latest" "[I" RX13, .fieldLinkNest RX13 265 RX12 "stretchDay" "[I" RX13, .fieldLinkNest RX13 268 RX12 "stretchDays" "[I" RX13, .fieldLinkNest RX13 318 RX12 "stretchIn" "[I" RX13, .fieldLinkNest RX13 301 RX12 "result" "[J" RX13, .fieldLinkNest RX13 304 RX12 "none" "[J" RX13, .fieldLinkNest RX13 315 RX12 "all" "[J" RX13, .fieldLinkNest RX13 312 RX12 "due" "[J" RX13, .arrayOver (.object RX2), .arrayOver (.object RX4), .arrayOver (.object RX9), .arrayOver (.object RX6), .arrayOver (.object RX3), .arrayOver (.object RX8), .arrayOver (.object RX12)]
def NW (U : State) : Prop := ∀ w ∈ nestWs, va_Nw w U
def nwOk : Cond → Bool
  | .fieldLinkNest _ _ _ _ _ _ => true
  | .methodLinkNest _ _ _ _ => true
  | .arrayOver (.object _) => true
  | _ => false
theorem nestWs_ok : nestWs.all nwOk = true := by decide +kernel
theorem nw_warm {s U : State} (hW : s.WarmedH U.vm) : ∀ w : Cond, nwOk w = true → va_Nw w s → va_Nw w U := fun w h hz => match w, h, hz with
  | .fieldLinkNest _ _ _ _ _ _, _, hz => va_Nw.warmF hW hz
  | .methodLinkNest _ _ _ _, _, hz => va_Nw.warmM hW hz
  | .arrayOver (.object _), _, hz => va_AO.moved hW.alike hz
theorem nw_call {s : State} (U : State) (hv : s.vm = U.vm) : ∀ w : Cond, nwOk w = true → va_Nw w s → va_Nw w U := fun w h hz => match w, h, hz with
  | .fieldLinkNest _ _ _ _ _ _, _, hz => va_Nw.same rfl hv hz
  | .methodLinkNest _ _ _ _, _, hz => va_Nw.same rfl hv hz
  | .arrayOver (.object C), _, hz => va_AO.moved (C := C) (u := s) (U := U) (by rw [hv]; exact Vm.Alike.refl U.vm) hz
theorem NW.warm {s U : State} (hW : s.WarmedH U.vm) (h : NW s) : NW U := fun w hw => nw_warm hW w (List.all_eq_true.mp nestWs_ok w hw) (h w hw)
theorem NW.same {s U : State} (hv : s.vm = U.vm) (h : NW s) : NW U := fun w hw => nw_call U hv w (List.all_eq_true.mp nestWs_ok w hw) (h w hw)
theorem NW.use {s : State} {args : Array Value} (h : NW s) (w : Cond) (i : Nat) (hi : nestWs[i]? = some w) (ho : w.onTables = true) : w.before args s = true := va_Nw.use ho (h w (List.mem_of_getElem? hi))
theorem NW.ao {s : State} (h : NW s) (C : String) (i : Nat) (hi : nestWs[i]? = some (.arrayOver (.object C))) : va_AO C s := h _ (List.mem_of_getElem? hi)
/-- a contract's start: so many cells, the world ws, the tables -/
def Pr (D : va_G) (ws : va_W) (tys : List (ClassId × FieldType)) (sz : Nat) (U : State) : Prop := U.heap.size = sz ∧ va_P D vwCl ws U.heap ∧ va_K D vwCl tys U ∧ va_D (fun _ => True) ws ∧ NW U
/-- a contract's end: the world ws in A -/
def Po (D : va_G) (ws : va_W) (tys : List (ClassId × FieldType)) (A : Nat → Prop) (t : State) : Prop := va_P D vwCl ws t.heap ∧ va_K D vwCl tys t ∧ va_D A ws
theorem Pr.calling {D : va_G} {ws : va_W} {tys : List (ClassId × FieldType)} {sz : Nat} {U : State} (g : JFrame) (mk : MethodId) (a : Array Value) (h : Pr D ws tys sz U) : Pr D ws tys sz (U.calling g mk a) := ⟨h.1, h.2.1, va_K.moved (u := U) (U := U.calling g mk a) (Vm.Alike.refl U.vm) h.2.2.1, h.2.2.2.1, NW.same (s := U) rfl h.2.2.2.2⟩
theorem Pr.at {D : va_G} {ws : va_W} {tys : List (ClassId × FieldType)} {s U : State} {H : Heap} {A : Nat → Prop} (hP : va_P D vwCl ws H) (hK : va_K D vwCl tys s) (hD : va_D A ws) (hN : NW s) (hU : U.heap = H) (hW : s.WarmedH U.vm) : Pr D ws tys H.size U := ⟨by rw [hU], by rw [hU]; exact hP, va_K.moved hW.alike hK, hD.weaken (fun _ _ _ _ => trivial), NW.warm hW hN⟩
theorem Pr.blind {D : va_G} {ws : va_W} {tys : List (ClassId × FieldType)} {sz : Nat} {av : List Value} : FrameBlind (va_Pc av (Pr D ws tys sz)) := fun a U g mk q => ⟨q.1, q.2.calling g mk a⟩
