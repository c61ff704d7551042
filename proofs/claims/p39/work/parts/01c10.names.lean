set_option maxRecDepth 100000 in
theorem inTX10 : ∀ w ∈ wsX100, w ∈ lwx_tbl := fun w h => (goodIn_r wsX100 [223, 225, 227, 229, 231, 233, 235, 237, 239, 241] (by decide +kernel) (by decide +kernel) w h).1
set_option maxRecDepth 100000 in
theorem inTX1 : ∀ w ∈ wsX10, w ∈ lwx_tbl := fun w h => (goodIn_r wsX10 [83, 85, 87] (by decide +kernel) (by decide +kernel) w h).1
set_option maxRecDepth 100000 in
theorem inTX6 : ∀ w ∈ wsX60, w ∈ lwx_tbl := fun w h => (goodIn_r wsX60 [103, 105] (by decide +kernel) (by decide +kernel) w h).1
set_option maxRecDepth 100000 in
theorem inTX8 : ∀ w ∈ wsX80, w ∈ lwx_tbl := fun w h => (goodIn_r wsX80 [119, 121, 123, 125] (by decide +kernel) (by decide +kernel) w h).1
set_option maxRecDepth 100000 in
theorem inTX9 : ∀ w ∈ wsX90, w ∈ lwx_tbl := fun w h => (goodIn_r wsX90 [140, 142, 144, 146] (by decide +kernel) (by decide +kernel) w h).1
set_option maxRecDepth 100000 in
theorem inTX5 : ∀ w ∈ wsX50, w ∈ lwx_tbl := fun w h => (goodIn_r wsX50 [195, 197, 199] (by decide +kernel) (by decide +kernel) w h).1
set_option maxRecDepth 100000 in
theorem inTX2 : ∀ w ∈ wsX20, w ∈ lwx_tbl := fun w h => (goodIn_r wsX20 [210] (by decide +kernel) (by decide +kernel) w h).1
set_option maxRecDepth 100000 in
theorem inTX7 : ∀ w ∈ wsX70, w ∈ lwx_tbl := fun w h => (goodIn_r wsX70 [177, 179, 181, 183, 185, 187] (by decide +kernel) (by decide +kernel) w h).1
set_option maxRecDepth 100000 in
theorem inTJ4 : ∀ w ∈ wsJ40, w ∈ lwx_tbl := fun w h => (goodIn_r wsJ40 [281, 283, 285, 287] (by decide +kernel) (by decide +kernel) w h).1
set_option maxRecDepth 100000 in
theorem inTJ0 : ∀ w ∈ wsJ00, w ∈ lwx_tbl := fun w h => (goodIn_r wsJ00 [563, 565, 567, 569] (by decide +kernel) (by decide +kernel) w h).1
theorem wsL_law_in0 : ∀ w ∈ wsL_law0, w ∈ lwx_tbl := (List.forall_mem_append.mpr ⟨(List.forall_mem_append.mpr ⟨(List.forall_mem_append.mpr ⟨(List.forall_mem_append.mpr ⟨(List.forall_mem_append.mpr ⟨(List.forall_mem_append.mpr ⟨(List.forall_mem_append.mpr ⟨(List.forall_mem_append.mpr ⟨(List.forall_mem_append.mpr ⟨(List.forall_mem_append.mpr ⟨(List.forall_mem_append.mpr ⟨(List.forall_mem_append.mpr ⟨wsL_law_in0_r1, List.forall_mem_append.mpr ⟨wsL_law_in0_r2, List.forall_mem_append.mpr ⟨wsL_law_in0_r3, List.forall_mem_append.mpr ⟨wsL_law_in0_r4, List.forall_mem_append.mpr ⟨wsL_law_in0_r5, List.forall_mem_append.mpr ⟨wsL_law_in0_r6, List.forall_mem_append.mpr ⟨wsL_law_in0_r7, List.forall_mem_append.mpr ⟨wsL_law_in0_r8, List.forall_mem_append.mpr ⟨wsL_law_in0_r9, List.forall_mem_append.mpr ⟨wsL_law_in0_r10, List.forall_mem_append.mpr ⟨wsL_law_in0_r11, List.forall_mem_append.mpr ⟨wsL_law_in0_r12, List.forall_mem_append.mpr ⟨wsL_law_in0_r13, List.forall_mem_append.mpr ⟨wsL_law_in0_r14, List.forall_mem_append.mpr ⟨wsL_law_in0_r15, List.forall_mem_append.mpr ⟨wsL_law_in0_r16, List.forall_mem_append.mpr ⟨wsL_law_in0_r17, List.forall_mem_append.mpr ⟨wsL_law_in0_r18, List.forall_mem_append.mpr ⟨wsL_law_in0_r19, List.forall_mem_append.mpr ⟨wsL_law_in0_r20, List.forall_mem_append.mpr ⟨wsL_law_in0_r21, List.forall_mem_append.mpr ⟨wsL_law_in0_r22, List.forall_mem_append.mpr ⟨wsL_law_in0_r23, List.forall_mem_append.mpr ⟨wsL_law_in0_r24, List.forall_mem_append.mpr ⟨wsL_law_in0_r25, List.forall_mem_append.mpr ⟨wsL_law_in0_r26, List.forall_mem_append.mpr ⟨wsL_law_in0_r27, List.forall_mem_append.mpr ⟨wsL_law_in0_r28, List.forall_mem_append.mpr ⟨wsL_law_in0_r29, List.forall_mem_append.mpr ⟨wsL_law_in0_r30, List.forall_mem_append.mpr ⟨wsL_law_in0_r31, List.forall_mem_append.mpr ⟨wsL_law_in0_r32, List.forall_mem_append.mpr ⟨wsL_law_in0_r33, wsL_law_in0_r34⟩⟩⟩⟩⟩⟩⟩⟩⟩⟩⟩⟩⟩⟩⟩⟩⟩⟩⟩⟩⟩⟩⟩⟩⟩⟩⟩⟩⟩⟩⟩⟩⟩), inTX10⟩), inTX1⟩), inTX6⟩), inTX8⟩), inTX9⟩), inTX5⟩), inTX2⟩), inTX7⟩), inTJ4⟩), inTJ0⟩), fun _ h => absurd h List.not_mem_nil⟩)
