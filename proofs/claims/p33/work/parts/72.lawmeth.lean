/-! words of the law's own methods -/
abbrev wsP_act : List Cond := .codeWith yL_act cL_act 7 (some .long) [(0, 435, 436, 96), (0, 435, 442, 100), (0, 435, 448, 104)] :: wsL_law
set_option maxRecDepth 20000 in
theorem inv_L_act : ∀ w ∈ va_wsS RL 117 yL_act wsP_act, w ∈ wsL_law := List.forall_mem_append.mpr ⟨fun w h => upL w (goodIn_r (big := wsL_law0) _ [226, 227, 11] (by decide +kernel) (by decide +kernel) w h).1, List.forall_mem_cons.mpr ⟨upL _ wcL_act, fun _ h => h⟩⟩
abbrev wsP_refuses : List Cond := .code yL_refuses cL_refuses 24 (some .boolean) :: wsL_law
set_option maxRecDepth 20000 in
theorem inv_L_refuses : ∀ w ∈ va_wsS RL 127 yL_refuses wsP_refuses, w ∈ wsL_law := List.forall_mem_append.mpr ⟨fun w h => upL w (goodIn_r (big := wsL_law0) _ [103, 104, 11] (by decide +kernel) (by decide +kernel) w h).1, List.forall_mem_cons.mpr ⟨upL _ wcL_refuses, fun _ h => h⟩⟩
abbrev wsP_face : List Cond := .code yL_face cL_face 5 (some .boolean) :: wsL_law
set_option maxRecDepth 20000 in
theorem inv_L_face : ∀ w ∈ va_wsS RL 134 yL_face wsP_face, w ∈ wsL_law := List.forall_mem_append.mpr ⟨fun w h => upL w (goodIn_r (big := wsL_law0) _ [631, 632, 11] (by decide +kernel) (by decide +kernel) w h).1, List.forall_mem_cons.mpr ⟨upL _ wcL_face, fun _ h => h⟩⟩
abbrev wsP_net : List Cond := .code yL_net cL_net 4 (some .boolean) :: wsL_law
set_option maxRecDepth 20000 in
theorem inv_L_net : ∀ w ∈ va_wsS RL 131 yL_net wsP_net, w ∈ wsL_law := List.forall_mem_append.mpr ⟨fun w h => upL w (goodIn_r (big := wsL_law0) _ [628, 629, 11] (by decide +kernel) (by decide +kernel) w h).1, List.forall_mem_cons.mpr ⟨upL _ wcL_net, fun _ h => h⟩⟩
abbrev wsP_around : List Cond := .code yL_around cL_around 6 (some .boolean) :: wsL_law
set_option maxRecDepth 20000 in
theorem inv_L_around : ∀ w ∈ va_wsS RL 138 yL_around wsP_around, w ∈ wsL_law := List.forall_mem_append.mpr ⟨fun w h => upL w (goodIn_r (big := wsL_law0) _ [634, 635, 11] (by decide +kernel) (by decide +kernel) w h).1, List.forall_mem_cons.mpr ⟨upL _ wcL_around, fun _ h => h⟩⟩
abbrev wsP_disks : List Cond := .code yL_disks cL_disks 2 (some .boolean) :: wsL_law
set_option maxRecDepth 20000 in
theorem inv_L_disks : ∀ w ∈ va_wsS RL 141 yL_disks wsP_disks, w ∈ wsL_law := List.forall_mem_append.mpr ⟨fun w h => upL w (goodIn_r (big := wsL_law0) _ [637, 638, 11] (by decide +kernel) (by decide +kernel) w h).1, List.forall_mem_cons.mpr ⟨upL _ wcL_disks, fun _ h => h⟩⟩
abbrev wsP_five : List Cond := .code yL_five cL_five 1 (some .boolean) :: wsL_law
set_option maxRecDepth 20000 in
theorem inv_L_five : ∀ w ∈ va_wsS RL 145 yL_five wsP_five, w ∈ wsL_law := List.forall_mem_append.mpr ⟨fun w h => upL w (goodIn_r (big := wsL_law0) _ [647, 648, 11] (by decide +kernel) (by decide +kernel) w h).1, List.forall_mem_cons.mpr ⟨upL _ wcL_five, fun _ h => h⟩⟩
abbrev wsP_roots : List Cond := .code yL_roots cL_roots 10 (some .boolean) :: wsL_law
set_option maxRecDepth 20000 in
theorem inv_L_roots : ∀ w ∈ va_wsS RL 172 yL_roots wsP_roots, w ∈ wsL_law := List.forall_mem_append.mpr ⟨fun w h => upL w (goodIn_r (big := wsL_law0) _ [669, 670, 11] (by decide +kernel) (by decide +kernel) w h).1, List.forall_mem_cons.mpr ⟨upL _ wcL_roots, fun _ h => h⟩⟩
abbrev wsP_count : List Cond := .code yL_count cL_count 4 (some .boolean) :: wsL_law
set_option maxRecDepth 20000 in
theorem inv_L_count : ∀ w ∈ va_wsS RL 182 yL_count wsP_count, w ∈ wsL_law := List.forall_mem_append.mpr ⟨fun w h => upL w (goodIn_r (big := wsL_law0) _ [672, 673, 11] (by decide +kernel) (by decide +kernel) w h).1, List.forall_mem_cons.mpr ⟨upL _ wcL_count, fun _ h => h⟩⟩
abbrev wsP_gaskets : List Cond := .code yL_gaskets cL_gaskets 5 (some .boolean) :: wsL_law
set_option maxRecDepth 20000 in
theorem inv_L_gaskets : ∀ w ∈ va_wsS RL 148 yL_gaskets wsP_gaskets, w ∈ wsL_law := List.forall_mem_append.mpr ⟨fun w h => upL w (goodIn_r (big := wsL_law0) _ [650, 651, 11] (by decide +kernel) (by decide +kernel) w h).1, List.forall_mem_cons.mpr ⟨upL _ wcL_gaskets, fun _ h => h⟩⟩
abbrev wsP_between : List Cond := .code yL_between cL_between 9 (some .boolean) :: wsL_law
set_option maxRecDepth 20000 in
theorem inv_L_between : ∀ w ∈ va_wsS RL 201 yL_between wsP_between, w ∈ wsL_law := List.forall_mem_append.mpr ⟨fun w h => upL w (goodIn_r (big := wsL_law0) _ [688, 689, 11] (by decide +kernel) (by decide +kernel) w h).1, List.forall_mem_cons.mpr ⟨upL _ wcL_between, fun _ h => h⟩⟩
abbrev wsP_fractions : List Cond := .code yL_fractions cL_fractions 1 (some .boolean) :: wsL_law
set_option maxRecDepth 20000 in
theorem inv_L_fractions : ∀ w ∈ va_wsS RL 151 yL_fractions wsP_fractions, w ∈ wsL_law := List.forall_mem_append.mpr ⟨fun w h => upL w (goodIn_r (big := wsL_law0) _ [675, 676, 11] (by decide +kernel) (by decide +kernel) w h).1, List.forall_mem_cons.mpr ⟨upL _ wcL_fractions, fun _ h => h⟩⟩
abbrev wsP_word : List Cond := .code yL_word cL_word 6 (some .boolean) :: wsL_law
set_option maxRecDepth 20000 in
theorem inv_L_word : ∀ w ∈ va_wsS RL 222 yL_word wsP_word, w ∈ wsL_law := List.forall_mem_append.mpr ⟨fun w h => upL w (goodIn_r (big := wsL_law0) _ [702, 703, 11] (by decide +kernel) (by decide +kernel) w h).1, List.forall_mem_cons.mpr ⟨upL _ wcL_word, fun _ h => h⟩⟩
abbrev wsP_image : List Cond := .code yL_image cL_image 7 (some .boolean) :: wsL_law
set_option maxRecDepth 20000 in
theorem inv_L_image : ∀ w ∈ va_wsS RL 226 yL_image wsP_image, w ∈ wsL_law := List.forall_mem_append.mpr ⟨fun w h => upL w (goodIn_r (big := wsL_law0) _ [705, 706, 11] (by decide +kernel) (by decide +kernel) w h).1, List.forall_mem_cons.mpr ⟨upL _ wcL_image, fun _ h => h⟩⟩
abbrev wsP_words : List Cond := .code yL_words cL_words 1 (some .boolean) :: wsL_law
set_option maxRecDepth 20000 in
theorem inv_L_words : ∀ w ∈ va_wsS RL 154 yL_words wsP_words, w ∈ wsL_law := List.forall_mem_append.mpr ⟨fun w h => upL w (goodIn_r (big := wsL_law0) _ [691, 692, 11] (by decide +kernel) (by decide +kernel) w h).1, List.forall_mem_cons.mpr ⟨upL _ wcL_words, fun _ h => h⟩⟩
abbrev wsP_trees : List Cond := .code yL_trees cL_trees 2 (some .boolean) :: wsL_law
set_option maxRecDepth 20000 in
theorem inv_L_trees : ∀ w ∈ va_wsS RL 241 yL_trees wsP_trees, w ∈ wsL_law := List.forall_mem_append.mpr ⟨fun w h => upL w (goodIn_r (big := wsL_law0) _ [715, 716, 11] (by decide +kernel) (by decide +kernel) w h).1, List.forall_mem_cons.mpr ⟨upL _ wcL_trees, fun _ h => h⟩⟩
abbrev wsP_rectangle : List Cond := .code yL_rectangle cL_rectangle 7 (some .boolean) :: wsL_law
set_option maxRecDepth 20000 in
theorem inv_L_rectangle : ∀ w ∈ va_wsS RL 244 yL_rectangle wsP_rectangle, w ∈ wsL_law := List.forall_mem_append.mpr ⟨fun w h => upL w (goodIn_r (big := wsL_law0) _ [718, 719, 11] (by decide +kernel) (by decide +kernel) w h).1, List.forall_mem_cons.mpr ⟨upL _ wcL_rectangle, fun _ h => h⟩⟩
abbrev wsP_networks : List Cond := .code yL_networks cL_networks 6 (some .boolean) :: wsL_law
set_option maxRecDepth 20000 in
theorem inv_L_networks : ∀ w ∈ va_wsS RL 157 yL_networks wsP_networks, w ∈ wsL_law := List.forall_mem_append.mpr ⟨fun w h => upL w (goodIn_r (big := wsL_law0) _ [712, 713, 11] (by decide +kernel) (by decide +kernel) w h).1, List.forall_mem_cons.mpr ⟨upL _ wcL_networks, fun _ h => h⟩⟩
abbrev wsP_nets : List Cond := .code yL_nets cL_nets 2 (some .boolean) :: wsL_law
set_option maxRecDepth 20000 in
theorem inv_L_nets : ∀ w ∈ va_wsS RL 248 yL_nets wsP_nets, w ∈ wsL_law := List.forall_mem_append.mpr ⟨fun w h => upL w (goodIn_r (big := wsL_law0) _ [9, 10, 11] (by decide +kernel) (by decide +kernel) w h).1, List.forall_mem_cons.mpr ⟨upL _ wcL_nets, fun _ h => h⟩⟩
