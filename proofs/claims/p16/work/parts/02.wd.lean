set_option maxRecDepth 16384 in
theorem wd_w1_0 : List.all (tables_1_1.take 40) (fun c => wd_ok c || c.before start1.args0 wd_about) = true := by decide +kernel
set_option maxRecDepth 16384 in
theorem wd_w1_1 : List.all ((tables_1_1.drop 40).take 40) (fun c => wd_ok c || c.before start1.args0 wd_about) = true := by decide +kernel
set_option maxRecDepth 16384 in
theorem wd_w1_2 : List.all (((tables_1_1.drop 40).drop 40).take 40) (fun c => wd_ok c || c.before start1.args0 wd_about) = true := by decide +kernel
set_option maxRecDepth 16384 in
theorem wd_w1_3 : List.all ((((tables_1_1.drop 40).drop 40).drop 40).take 40) (fun c => wd_ok c || c.before start1.args0 wd_about) = true := by decide +kernel
set_option maxRecDepth 16384 in
theorem wd_w1_4 : List.all (((((tables_1_1.drop 40).drop 40).drop 40).drop 40).take 40) (fun c => wd_ok c || c.before start1.args0 wd_about) = true := by decide +kernel
set_option maxRecDepth 16384 in
theorem wd_w1_5 : List.all (((((tables_1_1.drop 40).drop 40).drop 40).drop 40).drop 40) (fun c => wd_ok c || c.before start1.args0 wd_about) = true := by decide +kernel
theorem wd_w1 : List.all tables_1_1 (fun c => wd_ok c || c.before start1.args0 wd_about) = true := (start1.su_all_split _ 40 tables_1_1 wd_w1_0 (start1.su_all_split _ 40 (tables_1_1.drop 40) wd_w1_1 (start1.su_all_split _ 40 ((tables_1_1.drop 40).drop 40) wd_w1_2 (start1.su_all_split _ 40 (((tables_1_1.drop 40).drop 40).drop 40) wd_w1_3 (start1.su_all_split _ 40 ((((tables_1_1.drop 40).drop 40).drop 40).drop 40) wd_w1_4 wd_w1_5)))))
set_option maxRecDepth 16384 in
theorem wd_w2_0 : List.all (tables_1_2.take 40) (fun c => wd_ok c || c.before start1.args0 wd_about) = true := by decide +kernel
set_option maxRecDepth 16384 in
theorem wd_w2_1 : List.all ((tables_1_2.drop 40).take 40) (fun c => wd_ok c || c.before start1.args0 wd_about) = true := by decide +kernel
set_option maxRecDepth 16384 in
theorem wd_w2_2 : List.all (((tables_1_2.drop 40).drop 40).take 40) (fun c => wd_ok c || c.before start1.args0 wd_about) = true := by decide +kernel
set_option maxRecDepth 16384 in
theorem wd_w2_3 : List.all ((((tables_1_2.drop 40).drop 40).drop 40).take 40) (fun c => wd_ok c || c.before start1.args0 wd_about) = true := by decide +kernel
set_option maxRecDepth 16384 in
theorem wd_w2_4 : List.all (((((tables_1_2.drop 40).drop 40).drop 40).drop 40).take 40) (fun c => wd_ok c || c.before start1.args0 wd_about) = true := by decide +kernel
set_option maxRecDepth 16384 in
theorem wd_w2_5 : List.all (((((tables_1_2.drop 40).drop 40).drop 40).drop 40).drop 40) (fun c => wd_ok c || c.before start1.args0 wd_about) = true := by decide +kernel
theorem wd_w2 : List.all tables_1_2 (fun c => wd_ok c || c.before start1.args0 wd_about) = true := (start1.su_all_split _ 40 tables_1_2 wd_w2_0 (start1.su_all_split _ 40 (tables_1_2.drop 40) wd_w2_1 (start1.su_all_split _ 40 ((tables_1_2.drop 40).drop 40) wd_w2_2 (start1.su_all_split _ 40 (((tables_1_2.drop 40).drop 40).drop 40) wd_w2_3 (start1.su_all_split _ 40 ((((tables_1_2.drop 40).drop 40).drop 40).drop 40) wd_w2_4 wd_w2_5)))))
set_option maxRecDepth 16384 in
theorem wd_w3_0 : List.all (tables_1_3.take 40) (fun c => wd_ok c || c.before start1.args0 wd_about) = true := by decide +kernel
set_option maxRecDepth 16384 in
theorem wd_w3_1 : List.all ((tables_1_3.drop 40).take 40) (fun c => wd_ok c || c.before start1.args0 wd_about) = true := by decide +kernel
set_option maxRecDepth 16384 in
theorem wd_w3_2 : List.all (((tables_1_3.drop 40).drop 40).take 40) (fun c => wd_ok c || c.before start1.args0 wd_about) = true := by decide +kernel
set_option maxRecDepth 16384 in
theorem wd_w3_3 : List.all ((((tables_1_3.drop 40).drop 40).drop 40).take 40) (fun c => wd_ok c || c.before start1.args0 wd_about) = true := by decide +kernel
set_option maxRecDepth 16384 in
theorem wd_w3_4 : List.all (((((tables_1_3.drop 40).drop 40).drop 40).drop 40).take 40) (fun c => wd_ok c || c.before start1.args0 wd_about) = true := by decide +kernel
set_option maxRecDepth 16384 in
theorem wd_w3_5 : List.all (((((tables_1_3.drop 40).drop 40).drop 40).drop 40).drop 40) (fun c => wd_ok c || c.before start1.args0 wd_about) = true := by decide +kernel
theorem wd_w3 : List.all tables_1_3 (fun c => wd_ok c || c.before start1.args0 wd_about) = true := (start1.su_all_split _ 40 tables_1_3 wd_w3_0 (start1.su_all_split _ 40 (tables_1_3.drop 40) wd_w3_1 (start1.su_all_split _ 40 ((tables_1_3.drop 40).drop 40) wd_w3_2 (start1.su_all_split _ 40 (((tables_1_3.drop 40).drop 40).drop 40) wd_w3_3 (start1.su_all_split _ 40 ((((tables_1_3.drop 40).drop 40).drop 40).drop 40) wd_w3_4 wd_w3_5)))))
set_option maxRecDepth 16384 in
theorem wd_w4_0 : List.all (tables_1_4.take 40) (fun c => wd_ok c || c.before start1.args0 wd_about) = true := by decide +kernel
set_option maxRecDepth 16384 in
theorem wd_w4_1 : List.all (tables_1_4.drop 40) (fun c => wd_ok c || c.before start1.args0 wd_about) = true := by decide +kernel
theorem wd_w4 : List.all tables_1_4 (fun c => wd_ok c || c.before start1.args0 wd_about) = true := (start1.su_all_split _ 40 tables_1_4 wd_w4_0 wd_w4_1)
theorem wd_one {l : List Jvm.Cond} (h : List.all l (fun c => wd_ok c || c.before start1.args0 wd_about) = true) (hw : ∀ c ∈ l, c.before start1.args0 start1.about = true) : ∀ c ∈ l, c.before start1.args0 wd_about = true := by
  intro c hc
  have h1 := List.all_eq_true.mp h c hc
  rw [Bool.or_eq_true] at h1
  rcases h1 with h1 | h1
  · exact wd_word h1 (hw c hc)
  · exact h1
theorem wd_words : ∀ c ∈ (Cond.code x code maxLocals ret :: tables_1), c.before start1.args0 wd_about = true := by
  intro c hc
  rcases List.mem_cons.mp hc with h | h
  · rw [h]; exact wd_word (by decide +kernel) start1.word_code
  · have h1 : c ∈ tables_1_1 ++ (tables_1_2 ++ (tables_1_3 ++ tables_1_4)) := h
    rcases List.mem_append.mp h1 with h2 | h1
    · exact wd_one wd_w1 start1.words_1 c h2
    rcases List.mem_append.mp h1 with h2 | h1
    · exact wd_one wd_w2 start1.words_2 c h2
    rcases List.mem_append.mp h1 with h2 | h1
    · exact wd_one wd_w3 start1.words_3 c h2
    exact wd_one wd_w4 start1.words_4 c h1
