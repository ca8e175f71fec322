section KM0b
variable {cI cB cZ : ClassId} {ob : Nat → Nat} {C : CT} {T : TS} {O : OS}
theorem pf_thrown {x : Int32} : (mfs ob C T O).set 0 (.int x) = mfs ob C T (soTh O x) := rfl
theorem pa_thrown {x : Int32} : mar cI cB cZ C T O = mar cI cB cZ C T (soTh O x) := rfl
theorem gf_thrown : (mfs ob C T O)[0]? = some (.int (ooTh O)) := rfl
theorem hf_thrown {x : Int32} : (mfs ob C T (soTh O x))[0]? = some (.int x) := rfl
theorem nf_thrown {x : Int32} (k : Nat) (h : 0 ≠ k) : (mfs ob C T (soTh O x))[k]? = (mfs ob C T O)[k]? := by rw [← pf_thrown]; exact List.getElem?_set_ne h
theorem na_thrown {x : Int32} (j : Nat) : (mar cI cB cZ C T (soTh O x))[j]? = (mar cI cB cZ C T O)[j]? := by rw [← pa_thrown]
theorem qa_kind {x : (Nat → Int32)} : (mar cI cB cZ C T O).set 0 (.inl (cI, 300, .inl x)) = mar cI cB cZ C (sxK T x) O := rfl
theorem qf_kind {x : (Nat → Int32)} : mfs ob C T O = mfs ob C (sxK T x) O := rfl
theorem ga_kind : (mar cI cB cZ C T O)[0]? = some (.inl (cI, 300, .inl (ttK T))) := rfl
theorem ha_kind {x : (Nat → Int32)} : (mar cI cB cZ C (sxK T x) O)[0]? = some (.inl (cI, 300, .inl x)) := rfl
theorem na_kind {x : (Nat → Int32)} (j : Nat) (h : 0 ≠ j) : (mar cI cB cZ C (sxK T x) O)[j]? = (mar cI cB cZ C T O)[j]? := by rw [← qa_kind]; exact List.getElem?_set_ne h
theorem nf_kind {x : (Nat → Int32)} (k : Nat) : (mfs ob C (sxK T x) O)[k]? = (mfs ob C T O)[k]? := by rw [← qf_kind]
theorem qa_up {x : (Nat → Int32)} : (mar cI cB cZ C T O).set 1 (.inl (cI, 300, .inl x)) = mar cI cB cZ C (sxU T x) O := rfl
theorem qf_up {x : (Nat → Int32)} : mfs ob C T O = mfs ob C (sxU T x) O := rfl
theorem ga_up : (mar cI cB cZ C T O)[1]? = some (.inl (cI, 300, .inl (ttU T))) := rfl
theorem ha_up {x : (Nat → Int32)} : (mar cI cB cZ C (sxU T x) O)[1]? = some (.inl (cI, 300, .inl x)) := rfl
theorem na_up {x : (Nat → Int32)} (j : Nat) (h : 1 ≠ j) : (mar cI cB cZ C (sxU T x) O)[j]? = (mar cI cB cZ C T O)[j]? := by rw [← qa_up]; exact List.getElem?_set_ne h
theorem nf_up {x : (Nat → Int32)} (k : Nat) : (mfs ob C (sxU T x) O)[k]? = (mfs ob C T O)[k]? := by rw [← qf_up]
theorem qa_number {x : (Nat → Int32)} : (mar cI cB cZ C T O).set 2 (.inl (cI, 300, .inl x)) = mar cI cB cZ C (sxNu T x) O := rfl
theorem qf_number {x : (Nat → Int32)} : mfs ob C T O = mfs ob C (sxNu T x) O := rfl
theorem ga_number : (mar cI cB cZ C T O)[2]? = some (.inl (cI, 300, .inl (ttNu T))) := rfl
theorem ha_number {x : (Nat → Int32)} : (mar cI cB cZ C (sxNu T x) O)[2]? = some (.inl (cI, 300, .inl x)) := rfl
theorem na_number {x : (Nat → Int32)} (j : Nat) (h : 2 ≠ j) : (mar cI cB cZ C (sxNu T x) O)[j]? = (mar cI cB cZ C T O)[j]? := by rw [← qa_number]; exact List.getElem?_set_ne h
theorem nf_number {x : (Nat → Int32)} (k : Nat) : (mfs ob C (sxNu T x) O)[k]? = (mfs ob C T O)[k]? := by rw [← qf_number]
theorem qa_deep {x : (Nat → Nat)} : (mar cI cB cZ C T O).set 3 (.inl (cI, 300, .inl (fun i => nI (x i)))) = mar cI cB cZ C (sxDe T x) O := rfl
theorem qf_deep {x : (Nat → Nat)} : mfs ob C T O = mfs ob C (sxDe T x) O := rfl
theorem ga_deep : (mar cI cB cZ C T O)[3]? = some (.inl (cI, 300, .inl (fun i => nI ((ttDe T) i)))) := rfl
theorem ha_deep {x : (Nat → Nat)} : (mar cI cB cZ C (sxDe T x) O)[3]? = some (.inl (cI, 300, .inl (fun i => nI (x i)))) := rfl
theorem na_deep {x : (Nat → Nat)} (j : Nat) (h : 3 ≠ j) : (mar cI cB cZ C (sxDe T x) O)[j]? = (mar cI cB cZ C T O)[j]? := by rw [← qa_deep]; exact List.getElem?_set_ne h
theorem nf_deep {x : (Nat → Nat)} (k : Nat) : (mfs ob C (sxDe T x) O)[k]? = (mfs ob C T O)[k]? := by rw [← qf_deep]
theorem qa_from {x : (Nat → Nat)} : (mar cI cB cZ C T O).set 4 (.inl (cI, 300, .inl (fun i => nI (x i)))) = mar cI cB cZ C (sxFr T x) O := rfl
theorem qf_from {x : (Nat → Nat)} : mfs ob C T O = mfs ob C (sxFr T x) O := rfl
theorem ga_from : (mar cI cB cZ C T O)[4]? = some (.inl (cI, 300, .inl (fun i => nI ((ttFr T) i)))) := rfl
theorem ha_from {x : (Nat → Nat)} : (mar cI cB cZ C (sxFr T x) O)[4]? = some (.inl (cI, 300, .inl (fun i => nI (x i)))) := rfl
theorem na_from {x : (Nat → Nat)} (j : Nat) (h : 4 ≠ j) : (mar cI cB cZ C (sxFr T x) O)[j]? = (mar cI cB cZ C T O)[j]? := by rw [← qa_from]; exact List.getElem?_set_ne h
theorem nf_from {x : (Nat → Nat)} (k : Nat) : (mfs ob C (sxFr T x) O)[k]? = (mfs ob C T O)[k]? := by rw [← qf_from]
theorem qa_many {x : (Nat → Nat)} : (mar cI cB cZ C T O).set 5 (.inl (cI, 300, .inl (fun i => nI (x i)))) = mar cI cB cZ C (sxMa T x) O := rfl
theorem qf_many {x : (Nat → Nat)} : mfs ob C T O = mfs ob C (sxMa T x) O := rfl
theorem ga_many : (mar cI cB cZ C T O)[5]? = some (.inl (cI, 300, .inl (fun i => nI ((ttMa T) i)))) := rfl
theorem ha_many {x : (Nat → Nat)} : (mar cI cB cZ C (sxMa T x) O)[5]? = some (.inl (cI, 300, .inl (fun i => nI (x i)))) := rfl
theorem na_many {x : (Nat → Nat)} (j : Nat) (h : 5 ≠ j) : (mar cI cB cZ C (sxMa T x) O)[j]? = (mar cI cB cZ C T O)[j]? := by rw [← qa_many]; exact List.getElem?_set_ne h
theorem nf_many {x : (Nat → Nat)} (k : Nat) : (mfs ob C (sxMa T x) O)[k]? = (mfs ob C T O)[k]? := by rw [← qf_many]
theorem qa_lastIn {x : (Nat → Int32)} : (mar cI cB cZ C T O).set 6 (.inl (cI, 300, .inl x)) = mar cI cB cZ C (sxLa T x) O := rfl
theorem qf_lastIn {x : (Nat → Int32)} : mfs ob C T O = mfs ob C (sxLa T x) O := rfl
theorem ga_lastIn : (mar cI cB cZ C T O)[6]? = some (.inl (cI, 300, .inl (ttLa T))) := rfl
theorem ha_lastIn {x : (Nat → Int32)} : (mar cI cB cZ C (sxLa T x) O)[6]? = some (.inl (cI, 300, .inl x)) := rfl
theorem na_lastIn {x : (Nat → Int32)} (j : Nat) (h : 6 ≠ j) : (mar cI cB cZ C (sxLa T x) O)[j]? = (mar cI cB cZ C T O)[j]? := by rw [← qa_lastIn]; exact List.getElem?_set_ne h
theorem nf_lastIn {x : (Nat → Int32)} (k : Nat) : (mfs ob C (sxLa T x) O)[k]? = (mfs ob C T O)[k]? := by rw [← qf_lastIn]
theorem qa_text {x : (Nat → Int32)} : (mar cI cB cZ C T O).set 7 (.inl (cB, 4000, .inl x)) = mar cI cB cZ C (sxTe T x) O := rfl
theorem qf_text {x : (Nat → Int32)} : mfs ob C T O = mfs ob C (sxTe T x) O := rfl
theorem ga_text : (mar cI cB cZ C T O)[7]? = some (.inl (cB, 4000, .inl (ttTe T))) := rfl
theorem ha_text {x : (Nat → Int32)} : (mar cI cB cZ C (sxTe T x) O)[7]? = some (.inl (cB, 4000, .inl x)) := rfl
theorem na_text {x : (Nat → Int32)} (j : Nat) (h : 7 ≠ j) : (mar cI cB cZ C (sxTe T x) O)[j]? = (mar cI cB cZ C T O)[j]? := by rw [← qa_text]; exact List.getElem?_set_ne h
theorem nf_text {x : (Nat → Int32)} (k : Nat) : (mfs ob C (sxTe T x) O)[k]? = (mfs ob C T O)[k]? := by rw [← qf_text]
theorem pf_nodes {x : Nat} : (mfs ob C T O).set 9 (.int (nI x)) = mfs ob C (sxN T x) O := rfl
theorem pa_nodes {x : Nat} : mar cI cB cZ C T O = mar cI cB cZ C (sxN T x) O := rfl
theorem gf_nodes : (mfs ob C T O)[9]? = some (.int (nI (ttN T))) := rfl
theorem hf_nodes {x : Nat} : (mfs ob C (sxN T x) O)[9]? = some (.int (nI x)) := rfl
theorem nf_nodes {x : Nat} (k : Nat) (h : 9 ≠ k) : (mfs ob C (sxN T x) O)[k]? = (mfs ob C T O)[k]? := by rw [← pf_nodes]; exact List.getElem?_set_ne h
theorem na_nodes {x : Nat} (j : Nat) : (mar cI cB cZ C (sxN T x) O)[j]? = (mar cI cB cZ C T O)[j]? := by rw [← pa_nodes]
theorem pf_characters {x : Nat} : (mfs ob C T O).set 10 (.int (nI x)) = mfs ob C (sxCh T x) O := rfl
theorem pa_characters {x : Nat} : mar cI cB cZ C T O = mar cI cB cZ C (sxCh T x) O := rfl
theorem gf_characters : (mfs ob C T O)[10]? = some (.int (nI (ttCh T))) := rfl
theorem hf_characters {x : Nat} : (mfs ob C (sxCh T x) O)[10]? = some (.int (nI x)) := rfl
theorem nf_characters {x : Nat} (k : Nat) (h : 10 ≠ k) : (mfs ob C (sxCh T x) O)[k]? = (mfs ob C T O)[k]? := by rw [← pf_characters]; exact List.getElem?_set_ne h
theorem na_characters {x : Nat} (j : Nat) : (mar cI cB cZ C (sxCh T x) O)[j]? = (mar cI cB cZ C T O)[j]? := by rw [← pa_characters]
theorem pf_hand {x : Nat} : (mfs ob C T O).set 11 (.int (nI x)) = mfs ob C (sxHa T x) O := rfl
theorem pa_hand {x : Nat} : mar cI cB cZ C T O = mar cI cB cZ C (sxHa T x) O := rfl
theorem gf_hand : (mfs ob C T O)[11]? = some (.int (nI (ttHa T))) := rfl
theorem hf_hand {x : Nat} : (mfs ob C (sxHa T x) O)[11]? = some (.int (nI x)) := rfl
theorem nf_hand {x : Nat} (k : Nat) (h : 11 ≠ k) : (mfs ob C (sxHa T x) O)[k]? = (mfs ob C T O)[k]? := by rw [← pf_hand]; exact List.getElem?_set_ne h
theorem na_hand {x : Nat} (j : Nat) : (mar cI cB cZ C (sxHa T x) O)[j]? = (mar cI cB cZ C T O)[j]? := by rw [← pa_hand]
theorem qa_length {x : (Nat → Int32)} : (mar cI cB cZ C T O).set 8 (.inl (cI, 1501, .inl x)) = mar cI cB cZ C T (soLe O x) := rfl
theorem qf_length {x : (Nat → Int32)} : mfs ob C T O = mfs ob C T (soLe O x) := rfl
theorem ga_length : (mar cI cB cZ C T O)[8]? = some (.inl (cI, 1501, .inl (ooLe O))) := rfl
theorem ha_length {x : (Nat → Int32)} : (mar cI cB cZ C T (soLe O x))[8]? = some (.inl (cI, 1501, .inl x)) := rfl
theorem na_length {x : (Nat → Int32)} (j : Nat) (h : 8 ≠ j) : (mar cI cB cZ C T (soLe O x))[j]? = (mar cI cB cZ C T O)[j]? := by rw [← qa_length]; exact List.getElem?_set_ne h
theorem nf_length {x : (Nat → Int32)} (k : Nat) : (mfs ob C T (soLe O x))[k]? = (mfs ob C T O)[k]? := by rw [← qf_length]
theorem qa_head {x : (Nat → Int32)} : (mar cI cB cZ C T O).set 9 (.inl (cI, 1501, .inl x)) = mar cI cB cZ C T (soHe O x) := rfl
theorem qf_head {x : (Nat → Int32)} : mfs ob C T O = mfs ob C T (soHe O x) := rfl
theorem ga_head : (mar cI cB cZ C T O)[9]? = some (.inl (cI, 1501, .inl (ooHe O))) := rfl
theorem ha_head {x : (Nat → Int32)} : (mar cI cB cZ C T (soHe O x))[9]? = some (.inl (cI, 1501, .inl x)) := rfl
theorem na_head {x : (Nat → Int32)} (j : Nat) (h : 9 ≠ j) : (mar cI cB cZ C T (soHe O x))[j]? = (mar cI cB cZ C T O)[j]? := by rw [← qa_head]; exact List.getElem?_set_ne h
theorem nf_head {x : (Nat → Int32)} (k : Nat) : (mfs ob C T (soHe O x))[k]? = (mfs ob C T O)[k]? := by rw [← qf_head]
theorem qa_page {x : (Nat → Int32)} : (mar cI cB cZ C T O).set 10 (.inl (cI, 1501, .inl x)) = mar cI cB cZ C T (soPa O x) := rfl
theorem qf_page {x : (Nat → Int32)} : mfs ob C T O = mfs ob C T (soPa O x) := rfl
theorem ga_page : (mar cI cB cZ C T O)[10]? = some (.inl (cI, 1501, .inl (ooPa O))) := rfl
theorem ha_page {x : (Nat → Int32)} : (mar cI cB cZ C T (soPa O x))[10]? = some (.inl (cI, 1501, .inl x)) := rfl
theorem na_page {x : (Nat → Int32)} (j : Nat) (h : 10 ≠ j) : (mar cI cB cZ C T (soPa O x))[j]? = (mar cI cB cZ C T O)[j]? := by rw [← qa_page]; exact List.getElem?_set_ne h
theorem nf_page {x : (Nat → Int32)} (k : Nat) : (mfs ob C T (soPa O x))[k]? = (mfs ob C T O)[k]? := by rw [← qf_page]
theorem qa_row {x : (Nat → Int32)} : (mar cI cB cZ C T O).set 11 (.inl (cI, 1501, .inl x)) = mar cI cB cZ C T (soRw O x) := rfl
theorem qf_row {x : (Nat → Int32)} : mfs ob C T O = mfs ob C T (soRw O x) := rfl
theorem ga_row : (mar cI cB cZ C T O)[11]? = some (.inl (cI, 1501, .inl (ooRw O))) := rfl
theorem ha_row {x : (Nat → Int32)} : (mar cI cB cZ C T (soRw O x))[11]? = some (.inl (cI, 1501, .inl x)) := rfl
theorem na_row {x : (Nat → Int32)} (j : Nat) (h : 11 ≠ j) : (mar cI cB cZ C T (soRw O x))[j]? = (mar cI cB cZ C T O)[j]? := by rw [← qa_row]; exact List.getElem?_set_ne h
theorem nf_row {x : (Nat → Int32)} (k : Nat) : (mfs ob C T (soRw O x))[k]? = (mfs ob C T O)[k]? := by rw [← qf_row]
theorem qa_between {x : (Nat → Int32)} : (mar cI cB cZ C T O).set 12 (.inl (cZ, 1501, .inl x)) = mar cI cB cZ C T (soBe O x) := rfl
theorem qf_between {x : (Nat → Int32)} : mfs ob C T O = mfs ob C T (soBe O x) := rfl
theorem ga_between : (mar cI cB cZ C T O)[12]? = some (.inl (cZ, 1501, .inl (ooBe O))) := rfl
theorem ha_between {x : (Nat → Int32)} : (mar cI cB cZ C T (soBe O x))[12]? = some (.inl (cZ, 1501, .inl x)) := rfl
theorem na_between {x : (Nat → Int32)} (j : Nat) (h : 12 ≠ j) : (mar cI cB cZ C T (soBe O x))[j]? = (mar cI cB cZ C T O)[j]? := by rw [← qa_between]; exact List.getElem?_set_ne h
theorem nf_between {x : (Nat → Int32)} (k : Nat) : (mfs ob C T (soBe O x))[k]? = (mfs ob C T O)[k]? := by rw [← qf_between]
theorem qa_seen {x : (Nat → Int32)} : (mar cI cB cZ C T O).set 13 (.inl (cB, 90060, .inl x)) = mar cI cB cZ C T (soSe O x) := rfl
theorem qf_seen {x : (Nat → Int32)} : mfs ob C T O = mfs ob C T (soSe O x) := rfl
theorem ga_seen : (mar cI cB cZ C T O)[13]? = some (.inl (cB, 90060, .inl (ooSe O))) := rfl
theorem ha_seen {x : (Nat → Int32)} : (mar cI cB cZ C T (soSe O x))[13]? = some (.inl (cB, 90060, .inl x)) := rfl
theorem na_seen {x : (Nat → Int32)} (j : Nat) (h : 13 ≠ j) : (mar cI cB cZ C T (soSe O x))[j]? = (mar cI cB cZ C T O)[j]? := by rw [← qa_seen]; exact List.getElem?_set_ne h
theorem nf_seen {x : (Nat → Int32)} (k : Nat) : (mfs ob C T (soSe O x))[k]? = (mfs ob C T O)[k]? := by rw [← qf_seen]
theorem pf_lines {x : Nat} : (mfs ob C T O).set 18 (.int (nI x)) = mfs ob C T (soLi O x) := rfl
theorem pa_lines {x : Nat} : mar cI cB cZ C T O = mar cI cB cZ C T (soLi O x) := rfl
theorem gf_lines : (mfs ob C T O)[18]? = some (.int (nI (ooLi O))) := rfl
theorem hf_lines {x : Nat} : (mfs ob C T (soLi O x))[18]? = some (.int (nI x)) := rfl
theorem nf_lines {x : Nat} (k : Nat) (h : 18 ≠ k) : (mfs ob C T (soLi O x))[k]? = (mfs ob C T O)[k]? := by rw [← pf_lines]; exact List.getElem?_set_ne h
theorem na_lines {x : Nat} (j : Nat) : (mar cI cB cZ C T (soLi O x))[j]? = (mar cI cB cZ C T O)[j]? := by rw [← pa_lines]
theorem pf_pageMany {x : Int32} : (mfs ob C T O).set 19 (.int x) = mfs ob C T (soPm O x) := rfl
theorem pa_pageMany {x : Int32} : mar cI cB cZ C T O = mar cI cB cZ C T (soPm O x) := rfl
theorem gf_pageMany : (mfs ob C T O)[19]? = some (.int (ooPm O)) := rfl
theorem hf_pageMany {x : Int32} : (mfs ob C T (soPm O x))[19]? = some (.int x) := rfl
theorem nf_pageMany {x : Int32} (k : Nat) (h : 19 ≠ k) : (mfs ob C T (soPm O x))[k]? = (mfs ob C T O)[k]? := by rw [← pf_pageMany]; exact List.getElem?_set_ne h
theorem na_pageMany {x : Int32} (j : Nat) : (mar cI cB cZ C T (soPm O x))[j]? = (mar cI cB cZ C T O)[j]? := by rw [← pa_pageMany]
theorem pf_rows {x : Int32} : (mfs ob C T O).set 20 (.int x) = mfs ob C T (soRo O x) := rfl
theorem pa_rows {x : Int32} : mar cI cB cZ C T O = mar cI cB cZ C T (soRo O x) := rfl
theorem gf_rows : (mfs ob C T O)[20]? = some (.int (ooRo O)) := rfl
theorem hf_rows {x : Int32} : (mfs ob C T (soRo O x))[20]? = some (.int x) := rfl
theorem nf_rows {x : Int32} (k : Nat) (h : 20 ≠ k) : (mfs ob C T (soRo O x))[k]? = (mfs ob C T O)[k]? := by rw [← pf_rows]; exact List.getElem?_set_ne h
theorem na_rows {x : Int32} (j : Nat) : (mar cI cB cZ C T (soRo O x))[j]? = (mar cI cB cZ C T O)[j]? := by rw [← pa_rows]
theorem pf_columns {x : Nat} : (mfs ob C T O).set 21 (.int (nI x)) = mfs ob C (sxCo T x) O := rfl
theorem pa_columns {x : Nat} : mar cI cB cZ C T O = mar cI cB cZ C (sxCo T x) O := rfl
theorem gf_columns : (mfs ob C T O)[21]? = some (.int (nI (ttCo T))) := rfl
theorem hf_columns {x : Nat} : (mfs ob C (sxCo T x) O)[21]? = some (.int (nI x)) := rfl
theorem nf_columns {x : Nat} (k : Nat) (h : 21 ≠ k) : (mfs ob C (sxCo T x) O)[k]? = (mfs ob C T O)[k]? := by rw [← pf_columns]; exact List.getElem?_set_ne h
theorem na_columns {x : Nat} (j : Nat) : (mar cI cB cZ C (sxCo T x) O)[j]? = (mar cI cB cZ C T O)[j]? := by rw [← pa_columns]
theorem pf_laid {x : Nat} : (mfs ob C T O).set 22 (.int (nI x)) = mfs ob C T (soLa O x) := rfl
theorem pa_laid {x : Nat} : mar cI cB cZ C T O = mar cI cB cZ C T (soLa O x) := rfl
theorem gf_laid : (mfs ob C T O)[22]? = some (.int (nI (ooLa O))) := rfl
theorem hf_laid {x : Nat} : (mfs ob C T (soLa O x))[22]? = some (.int (nI x)) := rfl
theorem nf_laid {x : Nat} (k : Nat) (h : 22 ≠ k) : (mfs ob C T (soLa O x))[k]? = (mfs ob C T O)[k]? := by rw [← pf_laid]; exact List.getElem?_set_ne h
theorem na_laid {x : Nat} (j : Nat) : (mar cI cB cZ C T (soLa O x))[j]? = (mar cI cB cZ C T O)[j]? := by rw [← pa_laid]
theorem pf_counted {x : Nat} : (mfs ob C T O).set 23 (.int (nI x)) = mfs ob (szCnt C x) T O := rfl
theorem pa_counted {x : Nat} : mar cI cB cZ C T O = mar cI cB cZ (szCnt C x) T O := rfl
theorem gf_counted : (mfs ob C T O)[23]? = some (.int (nI (zCnt C))) := rfl
theorem hf_counted {x : Nat} : (mfs ob (szCnt C x) T O)[23]? = some (.int (nI x)) := rfl
theorem nf_counted {x : Nat} (k : Nat) (h : 23 ≠ k) : (mfs ob (szCnt C x) T O)[k]? = (mfs ob C T O)[k]? := by rw [← pf_counted]; exact List.getElem?_set_ne h
theorem na_counted {x : Nat} (j : Nat) : (mar cI cB cZ (szCnt C x) T O)[j]? = (mar cI cB cZ C T O)[j]? := by rw [← pa_counted]
theorem qa_pageOf {x : (Nat → Int32)} : (mar cI cB cZ C T O).set 14 (.inl (cI, 300, .inl x)) = mar cI cB cZ C T (soPo O x) := rfl
theorem qf_pageOf {x : (Nat → Int32)} : mfs ob C T O = mfs ob C T (soPo O x) := rfl
theorem ga_pageOf : (mar cI cB cZ C T O)[14]? = some (.inl (cI, 300, .inl (ooPo O))) := rfl
theorem ha_pageOf {x : (Nat → Int32)} : (mar cI cB cZ C T (soPo O x))[14]? = some (.inl (cI, 300, .inl x)) := rfl
theorem na_pageOf {x : (Nat → Int32)} (j : Nat) (h : 14 ≠ j) : (mar cI cB cZ C T (soPo O x))[j]? = (mar cI cB cZ C T O)[j]? := by rw [← qa_pageOf]; exact List.getElem?_set_ne h
theorem nf_pageOf {x : (Nat → Int32)} (k : Nat) : (mfs ob C T (soPo O x))[k]? = (mfs ob C T O)[k]? := by rw [← qf_pageOf]
theorem qa_start {x : (Nat → Int32)} : (mar cI cB cZ C T O).set 15 (.inl (cI, 300, .inl x)) = mar cI cB cZ C T (soSt O x) := rfl
theorem qf_start {x : (Nat → Int32)} : mfs ob C T O = mfs ob C T (soSt O x) := rfl
theorem ga_start : (mar cI cB cZ C T O)[15]? = some (.inl (cI, 300, .inl (ooSt O))) := rfl
theorem ha_start {x : (Nat → Int32)} : (mar cI cB cZ C T (soSt O x))[15]? = some (.inl (cI, 300, .inl x)) := rfl
theorem na_start {x : (Nat → Int32)} (j : Nat) (h : 15 ≠ j) : (mar cI cB cZ C T (soSt O x))[j]? = (mar cI cB cZ C T O)[j]? := by rw [← qa_start]; exact List.getElem?_set_ne h
theorem nf_start {x : (Nat → Int32)} (k : Nat) : (mfs ob C T (soSt O x))[k]? = (mfs ob C T O)[k]? := by rw [← qf_start]
theorem qa_hKind {x : (Nat → Int32)} : (mar cI cB cZ C T O).set 16 (.inl (cI, 14, .inl x)) = mar cI cB cZ (szK C x) T O := rfl
theorem qf_hKind {x : (Nat → Int32)} : mfs ob C T O = mfs ob (szK C x) T O := rfl
theorem ga_hKind : (mar cI cB cZ C T O)[16]? = some (.inl (cI, 14, .inl (zK C))) := rfl
theorem ha_hKind {x : (Nat → Int32)} : (mar cI cB cZ (szK C x) T O)[16]? = some (.inl (cI, 14, .inl x)) := rfl
theorem na_hKind {x : (Nat → Int32)} (j : Nat) (h : 16 ≠ j) : (mar cI cB cZ (szK C x) T O)[j]? = (mar cI cB cZ C T O)[j]? := by rw [← qa_hKind]; exact List.getElem?_set_ne h
theorem nf_hKind {x : (Nat → Int32)} (k : Nat) : (mfs ob (szK C x) T O)[k]? = (mfs ob C T O)[k]? := by rw [← qf_hKind]
theorem qa_hWidth {x : (Nat → Int32)} : (mar cI cB cZ C T O).set 17 (.inl (cI, 14, .inl x)) = mar cI cB cZ (szW C x) T O := rfl
theorem qf_hWidth {x : (Nat → Int32)} : mfs ob C T O = mfs ob (szW C x) T O := rfl
theorem ga_hWidth : (mar cI cB cZ C T O)[17]? = some (.inl (cI, 14, .inl (zW C))) := rfl
theorem ha_hWidth {x : (Nat → Int32)} : (mar cI cB cZ (szW C x) T O)[17]? = some (.inl (cI, 14, .inl x)) := rfl
theorem na_hWidth {x : (Nat → Int32)} (j : Nat) (h : 17 ≠ j) : (mar cI cB cZ (szW C x) T O)[j]? = (mar cI cB cZ C T O)[j]? := by rw [← qa_hWidth]; exact List.getElem?_set_ne h
theorem nf_hWidth {x : (Nat → Int32)} (k : Nat) : (mfs ob (szW C x) T O)[k]? = (mfs ob C T O)[k]? := by rw [← qf_hWidth]
theorem qa_hSign {x : (Nat → Int32)} : (mar cI cB cZ C T O).set 18 (.inl (cI, 14, .inl x)) = mar cI cB cZ (szS C x) T O := rfl
theorem qf_hSign {x : (Nat → Int32)} : mfs ob C T O = mfs ob (szS C x) T O := rfl
theorem ga_hSign : (mar cI cB cZ C T O)[18]? = some (.inl (cI, 14, .inl (zS C))) := rfl
theorem ha_hSign {x : (Nat → Int32)} : (mar cI cB cZ (szS C x) T O)[18]? = some (.inl (cI, 14, .inl x)) := rfl
theorem na_hSign {x : (Nat → Int32)} (j : Nat) (h : 18 ≠ j) : (mar cI cB cZ (szS C x) T O)[j]? = (mar cI cB cZ C T O)[j]? := by rw [← qa_hSign]; exact List.getElem?_set_ne h
theorem nf_hSign {x : (Nat → Int32)} (k : Nat) : (mfs ob (szS C x) T O)[k]? = (mfs ob C T O)[k]? := by rw [← qf_hSign]
theorem qa_hNext {x : (Nat → Int32)} : (mar cI cB cZ C T O).set 19 (.inl (cI, 14, .inl x)) = mar cI cB cZ (szX C x) T O := rfl
theorem qf_hNext {x : (Nat → Int32)} : mfs ob C T O = mfs ob (szX C x) T O := rfl
theorem ga_hNext : (mar cI cB cZ C T O)[19]? = some (.inl (cI, 14, .inl (zX C))) := rfl
theorem ha_hNext {x : (Nat → Int32)} : (mar cI cB cZ (szX C x) T O)[19]? = some (.inl (cI, 14, .inl x)) := rfl
theorem na_hNext {x : (Nat → Int32)} (j : Nat) (h : 19 ≠ j) : (mar cI cB cZ (szX C x) T O)[j]? = (mar cI cB cZ C T O)[j]? := by rw [← qa_hNext]; exact List.getElem?_set_ne h
theorem nf_hNext {x : (Nat → Int32)} (k : Nat) : (mfs ob (szX C x) T O)[k]? = (mfs ob C T O)[k]? := by rw [← qf_hNext]
theorem qa_hDue {x : (Nat → Int32)} : (mar cI cB cZ C T O).set 20 (.inl (cZ, 14, .inl x)) = mar cI cB cZ (szD C x) T O := rfl
theorem qf_hDue {x : (Nat → Int32)} : mfs ob C T O = mfs ob (szD C x) T O := rfl
theorem ga_hDue : (mar cI cB cZ C T O)[20]? = some (.inl (cZ, 14, .inl (zD C))) := rfl
theorem ha_hDue {x : (Nat → Int32)} : (mar cI cB cZ (szD C x) T O)[20]? = some (.inl (cZ, 14, .inl x)) := rfl
theorem na_hDue {x : (Nat → Int32)} (j : Nat) (h : 20 ≠ j) : (mar cI cB cZ (szD C x) T O)[j]? = (mar cI cB cZ C T O)[j]? := by rw [← qa_hDue]; exact List.getElem?_set_ne h
theorem nf_hDue {x : (Nat → Int32)} (k : Nat) : (mfs ob (szD C x) T O)[k]? = (mfs ob C T O)[k]? := by rw [← qf_hDue]
theorem qa_hWide {x : (Nat → Int32)} : (mar cI cB cZ C T O).set 21 (.inl (cZ, 14, .inl x)) = mar cI cB cZ (szI C x) T O := rfl
theorem qf_hWide {x : (Nat → Int32)} : mfs ob C T O = mfs ob (szI C x) T O := rfl
theorem ga_hWide : (mar cI cB cZ C T O)[21]? = some (.inl (cZ, 14, .inl (zI C))) := rfl
theorem ha_hWide {x : (Nat → Int32)} : (mar cI cB cZ (szI C x) T O)[21]? = some (.inl (cZ, 14, .inl x)) := rfl
theorem na_hWide {x : (Nat → Int32)} (j : Nat) (h : 21 ≠ j) : (mar cI cB cZ (szI C x) T O)[j]? = (mar cI cB cZ C T O)[j]? := by rw [← qa_hWide]; exact List.getElem?_set_ne h
theorem nf_hWide {x : (Nat → Int32)} (k : Nat) : (mfs ob (szI C x) T O)[k]? = (mfs ob C T O)[k]? := by rw [← qf_hWide]
theorem qa_hHad {x : (Nat → Int32)} : (mar cI cB cZ C T O).set 22 (.inl (cZ, 14, .inl x)) = mar cI cB cZ (szH C x) T O := rfl
theorem qf_hHad {x : (Nat → Int32)} : mfs ob C T O = mfs ob (szH C x) T O := rfl
theorem ga_hHad : (mar cI cB cZ C T O)[22]? = some (.inl (cZ, 14, .inl (zH C))) := rfl
theorem ha_hHad {x : (Nat → Int32)} : (mar cI cB cZ (szH C x) T O)[22]? = some (.inl (cZ, 14, .inl x)) := rfl
theorem na_hHad {x : (Nat → Int32)} (j : Nat) (h : 22 ≠ j) : (mar cI cB cZ (szH C x) T O)[j]? = (mar cI cB cZ C T O)[j]? := by rw [← qa_hHad]; exact List.getElem?_set_ne h
theorem nf_hHad {x : (Nat → Int32)} (k : Nat) : (mfs ob (szH C x) T O)[k]? = (mfs ob C T O)[k]? := by rw [← qf_hHad]
theorem qa_hFresh {x : (Nat → Int32)} : (mar cI cB cZ C T O).set 23 (.inl (cZ, 14, .inl x)) = mar cI cB cZ (szF C x) T O := rfl
theorem qf_hFresh {x : (Nat → Int32)} : mfs ob C T O = mfs ob (szF C x) T O := rfl
theorem ga_hFresh : (mar cI cB cZ C T O)[23]? = some (.inl (cZ, 14, .inl (zF C))) := rfl
theorem ha_hFresh {x : (Nat → Int32)} : (mar cI cB cZ (szF C x) T O)[23]? = some (.inl (cZ, 14, .inl x)) := rfl
theorem na_hFresh {x : (Nat → Int32)} (j : Nat) (h : 23 ≠ j) : (mar cI cB cZ (szF C x) T O)[j]? = (mar cI cB cZ C T O)[j]? := by rw [← qa_hFresh]; exact List.getElem?_set_ne h
theorem nf_hFresh {x : (Nat → Int32)} (k : Nat) : (mfs ob (szF C x) T O)[k]? = (mfs ob C T O)[k]? := by rw [← qf_hFresh]
theorem pf_holders {x : Nat} : (mfs ob C T O).set 34 (.int (nI x)) = mfs ob (szHo C x) T O := rfl
theorem pa_holders {x : Nat} : mar cI cB cZ C T O = mar cI cB cZ (szHo C x) T O := rfl
theorem gf_holders : (mfs ob C T O)[34]? = some (.int (nI (zHo C))) := rfl
theorem hf_holders {x : Nat} : (mfs ob (szHo C x) T O)[34]? = some (.int (nI x)) := rfl
theorem nf_holders {x : Nat} (k : Nat) (h : 34 ≠ k) : (mfs ob (szHo C x) T O)[k]? = (mfs ob C T O)[k]? := by rw [← pf_holders]; exact List.getElem?_set_ne h
theorem na_holders {x : Nat} (j : Nat) : (mar cI cB cZ (szHo C x) T O)[j]? = (mar cI cB cZ C T O)[j]? := by rw [← pa_holders]
theorem qa_word {x : (Nat → Int32)} : (mar cI cB cZ C T O).set 24 (.inl (cI, 4010, .inl x)) = mar cI cB cZ C T (soWo O x) := rfl
theorem qf_word {x : (Nat → Int32)} : mfs ob C T O = mfs ob C T (soWo O x) := rfl
theorem ga_word : (mar cI cB cZ C T O)[24]? = some (.inl (cI, 4010, .inl (ooWo O))) := rfl
theorem ha_word {x : (Nat → Int32)} : (mar cI cB cZ C T (soWo O x))[24]? = some (.inl (cI, 4010, .inl x)) := rfl
theorem na_word {x : (Nat → Int32)} (j : Nat) (h : 24 ≠ j) : (mar cI cB cZ C T (soWo O x))[j]? = (mar cI cB cZ C T O)[j]? := by rw [← qa_word]; exact List.getElem?_set_ne h
theorem nf_word {x : (Nat → Int32)} (k : Nat) : (mfs ob C T (soWo O x))[k]? = (mfs ob C T O)[k]? := by rw [← qf_word]
theorem qa_lineNow {x : (Nat → Int32)} : (mar cI cB cZ C T O).set 25 (.inl (cI, 4010, .inl x)) = mar cI cB cZ C T (soLn O x) := rfl
theorem qf_lineNow {x : (Nat → Int32)} : mfs ob C T O = mfs ob C T (soLn O x) := rfl
theorem ga_lineNow : (mar cI cB cZ C T O)[25]? = some (.inl (cI, 4010, .inl (ooLn O))) := rfl
theorem ha_lineNow {x : (Nat → Int32)} : (mar cI cB cZ C T (soLn O x))[25]? = some (.inl (cI, 4010, .inl x)) := rfl
theorem na_lineNow {x : (Nat → Int32)} (j : Nat) (h : 25 ≠ j) : (mar cI cB cZ C T (soLn O x))[j]? = (mar cI cB cZ C T O)[j]? := by rw [← qa_lineNow]; exact List.getElem?_set_ne h
theorem nf_lineNow {x : (Nat → Int32)} (k : Nat) : (mfs ob C T (soLn O x))[k]? = (mfs ob C T O)[k]? := by rw [← qf_lineNow]
theorem qa_shown {x : (Nat → Int32)} : (mar cI cB cZ C T O).set 26 (.inl (cI, 4300, .inl x)) = mar cI cB cZ C T (soSh O x) := rfl
theorem qf_shown {x : (Nat → Int32)} : mfs ob C T O = mfs ob C T (soSh O x) := rfl
theorem ga_shown : (mar cI cB cZ C T O)[26]? = some (.inl (cI, 4300, .inl (ooSh O))) := rfl
theorem ha_shown {x : (Nat → Int32)} : (mar cI cB cZ C T (soSh O x))[26]? = some (.inl (cI, 4300, .inl x)) := rfl
theorem na_shown {x : (Nat → Int32)} (j : Nat) (h : 26 ≠ j) : (mar cI cB cZ C T (soSh O x))[j]? = (mar cI cB cZ C T O)[j]? := by rw [← qa_shown]; exact List.getElem?_set_ne h
theorem nf_shown {x : (Nat → Int32)} (k : Nat) : (mfs ob C T (soSh O x))[k]? = (mfs ob C T O)[k]? := by rw [← qf_shown]
theorem pf_wordMany {x : Nat} : (mfs ob C T O).set 38 (.int (nI x)) = mfs ob (szWm C x) T O := rfl
theorem pa_wordMany {x : Nat} : mar cI cB cZ C T O = mar cI cB cZ (szWm C x) T O := rfl
theorem gf_wordMany : (mfs ob C T O)[38]? = some (.int (nI (zWm C))) := rfl
theorem hf_wordMany {x : Nat} : (mfs ob (szWm C x) T O)[38]? = some (.int (nI x)) := rfl
theorem nf_wordMany {x : Nat} (k : Nat) (h : 38 ≠ k) : (mfs ob (szWm C x) T O)[k]? = (mfs ob C T O)[k]? := by rw [← pf_wordMany]; exact List.getElem?_set_ne h
theorem na_wordMany {x : Nat} (j : Nat) : (mar cI cB cZ (szWm C x) T O)[j]? = (mar cI cB cZ C T O)[j]? := by rw [← pa_wordMany]
theorem pf_nowMany {x : Nat} : (mfs ob C T O).set 39 (.int (nI x)) = mfs ob (szNm C x) T O := rfl
theorem pa_nowMany {x : Nat} : mar cI cB cZ C T O = mar cI cB cZ (szNm C x) T O := rfl
theorem gf_nowMany : (mfs ob C T O)[39]? = some (.int (nI (zNm C))) := rfl
theorem hf_nowMany {x : Nat} : (mfs ob (szNm C x) T O)[39]? = some (.int (nI x)) := rfl
theorem nf_nowMany {x : Nat} (k : Nat) (h : 39 ≠ k) : (mfs ob (szNm C x) T O)[k]? = (mfs ob C T O)[k]? := by rw [← pf_nowMany]; exact List.getElem?_set_ne h
theorem na_nowMany {x : Nat} (j : Nat) : (mar cI cB cZ (szNm C x) T O)[j]? = (mar cI cB cZ C T O)[j]? := by rw [← pa_nowMany]
theorem pf_shownMany {x : Nat} : (mfs ob C T O).set 40 (.int (nI x)) = mfs ob C T (soSm O x) := rfl
theorem pa_shownMany {x : Nat} : mar cI cB cZ C T O = mar cI cB cZ C T (soSm O x) := rfl
theorem gf_shownMany : (mfs ob C T O)[40]? = some (.int (nI (ooSm O))) := rfl
theorem hf_shownMany {x : Nat} : (mfs ob C T (soSm O x))[40]? = some (.int (nI x)) := rfl
theorem nf_shownMany {x : Nat} (k : Nat) (h : 40 ≠ k) : (mfs ob C T (soSm O x))[k]? = (mfs ob C T O)[k]? := by rw [← pf_shownMany]; exact List.getElem?_set_ne h
theorem na_shownMany {x : Nat} (j : Nat) : (mar cI cB cZ C T (soSm O x))[j]? = (mar cI cB cZ C T O)[j]? := by rw [← pa_shownMany]
theorem pf_leafWidth {x : Nat} : (mfs ob C T O).set 41 (.int (nI x)) = mfs ob (szLw C x) T O := rfl
theorem pa_leafWidth {x : Nat} : mar cI cB cZ C T O = mar cI cB cZ (szLw C x) T O := rfl
theorem gf_leafWidth : (mfs ob C T O)[41]? = some (.int (nI (zLw C))) := rfl
theorem hf_leafWidth {x : Nat} : (mfs ob (szLw C x) T O)[41]? = some (.int (nI x)) := rfl
theorem nf_leafWidth {x : Nat} (k : Nat) (h : 41 ≠ k) : (mfs ob (szLw C x) T O)[k]? = (mfs ob C T O)[k]? := by rw [← pf_leafWidth]; exact List.getElem?_set_ne h
theorem na_leafWidth {x : Nat} (j : Nat) : (mar cI cB cZ (szLw C x) T O)[j]? = (mar cI cB cZ C T O)[j]? := by rw [← pa_leafWidth]
theorem pf_leafLine {x : Int32} : (mfs ob C T O).set 42 (.int x) = mfs ob (szLl C x) T O := rfl
theorem pa_leafLine {x : Int32} : mar cI cB cZ C T O = mar cI cB cZ (szLl C x) T O := rfl
theorem gf_leafLine : (mfs ob C T O)[42]? = some (.int (zLl C)) := rfl
theorem hf_leafLine {x : Int32} : (mfs ob (szLl C x) T O)[42]? = some (.int x) := rfl
theorem nf_leafLine {x : Int32} (k : Nat) (h : 42 ≠ k) : (mfs ob (szLl C x) T O)[k]? = (mfs ob C T O)[k]? := by rw [← pf_leafLine]; exact List.getElem?_set_ne h
theorem na_leafLine {x : Int32} (j : Nat) : (mar cI cB cZ (szLl C x) T O)[j]? = (mar cI cB cZ C T O)[j]? := by rw [← pa_leafLine]
theorem pf_leafOpen {x : Int32} : (mfs ob C T O).set 43 (.int x) = mfs ob (szLo C x) T O := rfl
theorem pa_leafOpen {x : Int32} : mar cI cB cZ C T O = mar cI cB cZ (szLo C x) T O := rfl
theorem gf_leafOpen : (mfs ob C T O)[43]? = some (.int (zLo C)) := rfl
theorem hf_leafOpen {x : Int32} : (mfs ob (szLo C x) T O)[43]? = some (.int x) := rfl
theorem nf_leafOpen {x : Int32} (k : Nat) (h : 43 ≠ k) : (mfs ob (szLo C x) T O)[k]? = (mfs ob C T O)[k]? := by rw [← pf_leafOpen]; exact List.getElem?_set_ne h
theorem na_leafOpen {x : Int32} (j : Nat) : (mar cI cB cZ (szLo C x) T O)[j]? = (mar cI cB cZ C T O)[j]? := by rw [← pa_leafOpen]
theorem pf_counts {x : Int32} : (mfs ob C T O).set 44 (.int x) = mfs ob C T (soCt O x) := rfl
theorem pa_counts {x : Int32} : mar cI cB cZ C T O = mar cI cB cZ C T (soCt O x) := rfl
theorem gf_counts : (mfs ob C T O)[44]? = some (.int (ooCt O)) := rfl
theorem hf_counts {x : Int32} : (mfs ob C T (soCt O x))[44]? = some (.int x) := rfl
theorem nf_counts {x : Int32} (k : Nat) (h : 44 ≠ k) : (mfs ob C T (soCt O x))[k]? = (mfs ob C T O)[k]? := by rw [← pf_counts]; exact List.getElem?_set_ne h
theorem na_counts {x : Int32} (j : Nat) : (mar cI cB cZ C T (soCt O x))[j]? = (mar cI cB cZ C T O)[j]? := by rw [← pa_counts]
end KM0b
