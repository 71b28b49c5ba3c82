/-! orders one by one -/
def pc1 : List Nat := [0]
def pc2 : List Nat := [1, 10]
def pc3 : List Nat := [12, 21, 102, 120, 201, 210]
def pc4 : List Nat := [123, 132, 213, 231, 312, 321, 1023, 1032, 1203, 1230, 1302, 1320, 2013, 2031, 2103, 2130, 2301, 2310, 3012, 3021, 3102, 3120, 3201, 3210]
def pc5 : List Nat := [1234, 1243, 1324, 1342, 1423, 1432, 2134, 2143, 2314, 2341, 2413, 2431, 3124, 3142, 3214, 3241, 3412, 3421, 4123, 4132, 4213, 4231, 4312, 4321, 10234, 10243, 10324, 10342, 10423, 10432, 12034, 12043, 12304, 12340, 12403, 12430, 13024, 13042, 13204, 13240, 13402, 13420, 14023, 14032, 14203, 14230, 14302, 14320, 20134, 20143, 20314, 20341, 20413, 20431, 21034, 21043, 21304, 21340, 21403, 21430, 23014, 23041, 23104, 23140, 23401, 23410, 24013, 24031, 24103, 24130, 24301, 24310, 30124, 30142, 30214, 30241, 30412, 30421, 31024, 31042, 31204, 31240, 31402, 31420, 32014, 32041, 32104, 32140, 32401, 32410, 34012, 34021, 34102, 34120, 34201, 34210, 40123, 40132, 40213, 40231, 40312, 40321, 41023, 41032, 41203, 41230, 41302, 41320, 42013, 42031, 42103, 42130, 42301, 42310, 43012, 43021, 43102, 43120, 43201, 43210]
def pc6 : List Nat := [12345, 12354, 12435, 12453, 12534, 12543, 13245, 13254, 13425, 13452, 13524, 13542, 14235, 14253, 14325, 14352, 14523, 14532, 15234, 15243, 15324, 15342, 15423, 15432, 21345, 21354, 21435, 21453, 21534, 21543, 23145, 23154, 23415, 23451, 23514, 23541, 24135, 24153, 24315, 24351, 24513, 24531, 25134, 25143, 25314, 25341, 25413, 25431, 31245, 31254, 31425, 31452, 31524, 31542, 32145, 32154, 32415, 32451, 32514, 32541, 34125, 34152, 34215, 34251, 34512, 34521, 35124, 35142, 35214, 35241, 35412, 35421, 41235, 41253, 41325, 41352, 41523, 41532, 42135, 42153, 42315, 42351, 42513, 42531, 43125, 43152, 43215, 43251, 43512, 43521, 45123, 45132, 45213, 45231, 45312, 45321, 51234, 51243, 51324, 51342, 51423, 51432, 52134, 52143, 52314, 52341, 52413, 52431, 53124, 53142, 53214, 53241, 53412, 53421, 54123, 54132, 54213, 54231, 54312, 54321, 102345, 102354, 102435, 102453, 102534, 102543, 103245, 103254, 103425, 103452, 103524, 103542, 104235, 104253, 104325, 104352, 104523, 104532, 105234, 105243, 105324, 105342, 105423, 105432, 120345, 120354, 120435, 120453, 120534, 120543, 123045, 123054, 123405, 123450, 123504, 123540, 124035, 124053, 124305, 124350, 124503, 124530, 125034, 125043, 125304, 125340, 125403, 125430, 130245, 130254, 130425, 130452, 130524, 130542, 132045, 132054, 132405, 132450, 132504, 132540, 134025, 134052, 134205, 134250, 134502, 134520, 135024, 135042, 135204, 135240, 135402, 135420, 140235, 140253, 140325, 140352, 140523, 140532, 142035, 142053, 142305, 142350, 142503, 142530, 143025, 143052, 143205, 143250, 143502, 143520, 145023, 145032, 145203, 145230, 145302, 145320, 150234, 150243, 150324, 150342, 150423, 150432, 152034, 152043, 152304, 152340, 152403, 152430, 153024, 153042, 153204, 153240, 153402, 153420, 154023, 154032, 154203, 154230, 154302, 154320, 201345, 201354, 201435, 201453, 201534, 201543, 203145, 203154, 203415, 203451, 203514, 203541, 204135, 204153, 204315, 204351, 204513, 204531, 205134, 205143, 205314, 205341, 205413, 205431, 210345, 210354, 210435, 210453, 210534, 210543, 213045, 213054, 213405, 213450, 213504, 213540, 214035, 214053, 214305, 214350, 214503, 214530, 215034, 215043, 215304, 215340, 215403, 215430, 230145, 230154, 230415, 230451, 230514, 230541, 231045, 231054, 231405, 231450, 231504, 231540, 234015, 234051, 234105, 234150, 234501, 234510, 235014, 235041, 235104, 235140, 235401, 235410, 240135, 240153, 240315, 240351, 240513, 240531, 241035, 241053, 241305, 241350, 241503, 241530, 243015, 243051, 243105, 243150, 243501, 243510, 245013, 245031, 245103, 245130, 245301, 245310, 250134, 250143, 250314, 250341, 250413, 250431, 251034, 251043, 251304, 251340, 251403, 251430, 253014, 253041, 253104, 253140, 253401, 253410, 254013, 254031, 254103, 254130, 254301, 254310, 301245, 301254, 301425, 301452, 301524, 301542, 302145, 302154, 302415, 302451, 302514, 302541, 304125, 304152, 304215, 304251, 304512, 304521, 305124, 305142, 305214, 305241, 305412, 305421, 310245, 310254, 310425, 310452, 310524, 310542, 312045, 312054, 312405, 312450, 312504, 312540, 314025, 314052, 314205, 314250, 314502, 314520, 315024, 315042, 315204, 315240, 315402, 315420, 320145, 320154, 320415, 320451, 320514, 320541, 321045, 321054, 321405, 321450, 321504, 321540, 324015, 324051, 324105, 324150, 324501, 324510, 325014, 325041, 325104, 325140, 325401, 325410, 340125, 340152, 340215, 340251, 340512, 340521, 341025, 341052, 341205, 341250, 341502, 341520, 342015, 342051, 342105, 342150, 342501, 342510, 345012, 345021, 345102, 345120, 345201, 345210, 350124, 350142, 350214, 350241, 350412, 350421, 351024, 351042, 351204, 351240, 351402, 351420, 352014, 352041, 352104, 352140, 352401, 352410, 354012, 354021, 354102, 354120, 354201, 354210, 401235, 401253, 401325, 401352, 401523, 401532, 402135, 402153, 402315, 402351, 402513, 402531, 403125, 403152, 403215, 403251, 403512, 403521, 405123, 405132, 405213, 405231, 405312, 405321, 410235, 410253, 410325, 410352, 410523, 410532, 412035, 412053, 412305, 412350, 412503, 412530, 413025, 413052, 413205, 413250, 413502, 413520, 415023, 415032, 415203, 415230, 415302, 415320, 420135, 420153, 420315, 420351, 420513, 420531, 421035, 421053, 421305, 421350, 421503, 421530, 423015, 423051, 423105, 423150, 423501, 423510, 425013, 425031, 425103, 425130, 425301, 425310, 430125, 430152, 430215, 430251, 430512, 430521, 431025, 431052, 431205, 431250, 431502, 431520, 432015, 432051, 432105, 432150, 432501, 432510, 435012, 435021, 435102, 435120, 435201, 435210, 450123, 450132, 450213, 450231, 450312, 450321, 451023, 451032, 451203, 451230, 451302, 451320, 452013, 452031, 452103, 452130, 452301, 452310, 453012, 453021, 453102, 453120, 453201, 453210, 501234, 501243, 501324, 501342, 501423, 501432, 502134, 502143, 502314, 502341, 502413, 502431, 503124, 503142, 503214, 503241, 503412, 503421, 504123, 504132, 504213, 504231, 504312, 504321, 510234, 510243, 510324, 510342, 510423, 510432, 512034, 512043, 512304, 512340, 512403, 512430, 513024, 513042, 513204, 513240, 513402, 513420, 514023, 514032, 514203, 514230, 514302, 514320, 520134, 520143, 520314, 520341, 520413, 520431, 521034, 521043, 521304, 521340, 521403, 521430, 523014, 523041, 523104, 523140, 523401, 523410, 524013, 524031, 524103, 524130, 524301, 524310, 530124, 530142, 530214, 530241, 530412, 530421, 531024, 531042, 531204, 531240, 531402, 531420, 532014, 532041, 532104, 532140, 532401, 532410, 534012, 534021, 534102, 534120, 534201, 534210, 540123, 540132, 540213, 540231, 540312, 540321, 541023, 541032, 541203, 541230, 541302, 541320, 542013, 542031, 542103, 542130, 542301, 542310, 543012, 543021, 543102, 543120, 543201, 543210]
def pcs : Nat → List Nat
  | 1 => pc1
  | 2 => pc2
  | 3 => pc3
  | 4 => pc4
  | 5 => pc5
  | 6 => pc6
  | _ => []
def dgt (n c k : Nat) : Nat := c / 10 ^ (n - 1 - k) % 10
def rowC (n c : Nat) : Row := fun k => nI (dgt n c k)
def okC (n c : Nat) : Bool := (List.range n).all fun k => Nat.blt (dgt n c k) n
def nxC (n c d : Nat) : Bool := decide ((nxt (rowC n c) n).2 = 1) && (List.range n).all fun k => decide ((nxt (rowC n c) n).1 k = rowC n d k)
def chC (n : Nat) : List Nat → Bool
  | [] => true
  | c :: l => match l with
    | [] => okC n c && decide ((nxt (rowC n c) n).2 = 0)
    | d :: _ => okC n c && (nxC n c d && chC n l)
theorem ch1 : chC 1 pc1 = true := by decide +kernel
theorem ch2 : chC 2 pc2 = true := by decide +kernel
theorem ch3 : chC 3 pc3 = true := by decide +kernel
theorem ch4 : chC 4 pc4 = true := by decide +kernel
theorem ch5 : chC 5 pc5 = true := by decide +kernel
theorem ch6 : chC 6 pc6 = true := by decide +kernel
theorem chN : ∀ n, 1 ≤ n → n ≤ 6 → chC n (pcs n) = true := by
  intro n h1 h2
  have h : n = 1 ∨ n = 2 ∨ n = 3 ∨ n = 4 ∨ n = 5 ∨ n = 6 := by omega
  rcases h with rfl | rfl | rfl | rfl | rfl | rfl
  · exact ch1
  · exact ch2
  · exact ch3
  · exact ch4
  · exact ch5
  · exact ch6
theorem pc_hd : ∀ n, n < 7 → 1 ≤ n → ∃ c l, pcs n = c :: l ∧ (pcs n).length ≤ 720 ∧ ∀ k, k < n → dgt n c k = k := by
  have e : ∀ n, n < 7 → 1 ≤ n → (pcs n) ≠ [] ∧ (pcs n).length ≤ 720 ∧ ∀ k, k < n → dgt n ((pcs n).headD 0) k = k := by decide +kernel
  intro n h1 h2
  obtain ⟨a, b, c⟩ := e n h1 h2
  cases hp : pcs n with
  | nil => exact absurd hp a
  | cons x l =>
    rw [hp] at b c
    exact ⟨x, l, rfl, b, c⟩
theorem loR_agn {f g : Row} : ∀ m : Nat, (∀ k, k ≤ m → f k = g k) → loR f m = loR g m := by
  intro m
  induction m with
  | zero => intro _; rfl
  | succ m ih => intro h; simp only [loR]; rw [ih (fun k hk => h k (by omega)), h (m + 1) (Nat.le_refl _), h m (by omega)]
theorem hiR_agn {f g : Row} {lo : Nat} (hl : f lo = g lo) : ∀ m : Nat, (∀ k, k ≤ m → f k = g k) → hiR f lo m = hiR g lo m := by
  intro m
  induction m with
  | zero => intro _; rfl
  | succ m ih => intro h; simp only [hiR]; rw [ih (fun k hk => h k (by omega)), h (m + 1) (Nat.le_refl _), hl]
theorem swp_agn {n : Nat} {f g : Row} (h : agn n f g) {i j : Nat} (hi : i < n) (hj : j < n) : agn n (swp f i j) (swp g i j) := by
  simp only [swp]
  rw [h i hi, h j hj]
  exact agn_upd (agn_upd h _ _) _ _
theorem rvR_agn {n lo : Nat} : ∀ (m i : Nat) {f g : Row}, 1 ≤ i → agn n f g → agn n (rvR lo n m i f) (rvR lo n m i g) := by
  intro m
  induction m with
  | zero => intro i f g _ h; exact h
  | succ m ih =>
    intro i f g hi h
    by_cases q : lo + i < n - i
    · rw [rvR_go q, rvR_go q]; exact ih _ (by omega) (swp_agn h (by omega) (by omega))
    · rw [rvR_stop q, rvR_stop q]; exact h
theorem nxt_agn {n : Nat} {f g : Row} (hn : 1 ≤ n) (h : agn n f g) : (nxt f n).2 = (nxt g n).2 ∧ agn n (nxt f n).1 (nxt g n).1 := by
  have e1 := loR_agn (f := f) (g := g) (n - 1) (fun k hk => h k (by omega))
  have b := loR_le g (n - 1)
  have e2 := hiR_agn (f := f) (g := g) (lo := loR g (n - 1) - 1) (h _ (by omega)) (n - 1) (fun k hk => h k (by omega))
  have c := hiR_le g (loR g (n - 1) - 1) (n - 1)
  simp only [nxt]
  rw [e1, e2]
  split
  · exact ⟨rfl, h⟩
  · exact ⟨rfl, rvR_agn _ _ (Nat.le_refl _) (swp_agn h (by omega) (by omega))⟩
/-- m orders are left, O the next one -/
def stO (n m : Nat) (O : Row) : Prop := ∃ c l, chC n (c :: l) = true ∧ (c :: l).length = m ∧ agn n O (rowC n c)
theorem okC_b {n c : Nat} (h : okC n c = true) : ∀ k, k < n → dgt n c k < n := by
  intro k hk
  have := List.all_eq_true.mp h k (List.mem_range.mpr hk)
  exact Nat.blt_eq.mp this
theorem chC_ok {n c : Nat} {l : List Nat} (h : chC n (c :: l) = true) : okC n c = true := by
  cases l with
  | nil => simp only [chC, Bool.and_eq_true] at h; exact h.1
  | cons d l => simp only [chC, Bool.and_eq_true] at h; exact h.1
theorem stO_1 {n m : Nat} {O : Row} (h : stO n m O) : 1 ≤ m := by
  obtain ⟨c, l, _, e, _⟩ := h
  rw [← e]; exact Nat.succ_pos _
theorem stO_b {n m : Nat} {O : Row} (hn : n ≤ 6) (h : stO n m O) : ∀ k, k < n → 0 ≤ O k ∧ O k < nI n := by
  obtain ⟨c, l, e, _, a⟩ := h
  intro k hk
  have b := okC_b (chC_ok e) k hk
  rw [a k hk]
  simp only [rowC]
  refine ⟨nI_le (a := 0) (Nat.zero_le _) (by omega), ?_⟩
  rw [in_toInt, nI_toInt (by omega), nI_toInt (by omega)]
  omega
theorem stO_n {n m : Nat} {O : Row} (hn : 1 ≤ n) (h : stO n m O) (h2 : ¬ (nxt O n).2 = 0) : 2 ≤ m ∧ stO n (m - 1) (nxt O n).1 := by
  obtain ⟨c, l, e, e2, a⟩ := h
  obtain ⟨a1, a2⟩ := nxt_agn hn a
  rw [a1] at h2
  cases l with
  | nil =>
    simp only [chC, Bool.and_eq_true, decide_eq_true_eq] at e
    exact absurd e.2 h2
  | cons d l =>
    simp only [chC, Bool.and_eq_true] at e
    obtain ⟨_, e3, e4⟩ := e
    simp only [nxC, Bool.and_eq_true] at e3
    subst e2
    refine ⟨by simp only [List.length_cons]; omega, d, l, e4, rfl, ?_⟩
    intro k hk
    rw [a2 k hk]
    have := List.all_eq_true.mp e3.2 k (List.mem_range.mpr hk)
    exact of_decide_eq_true this
theorem stO_0 {n : Nat} (h1 : 1 ≤ n) (h2 : n ≤ 6) (f : Row) : stO n (pcs n).length (hoR f nI n) := by
  obtain ⟨c, l, e, _, d⟩ := pc_hd n (by omega) h1
  have q := chN n h1 h2
  rw [e] at q
  refine ⟨c, l, q, by rw [e], fun k hk => ?_⟩
  simp only [hoR, rowC]
  rw [if_pos hk, d k hk]
abbrev FARC : Int32 := 1000000000
/-- orders: fuel, order, found, its order; answer: found, its order, the last order -/
def ordG (F : Row → Int32) (n : Nat) (wh : Int32) : Nat → Row → Int32 → Row → Int32 × Row × Row
  | 0, o, l, b => (l, b, o)
  | m + 1, o, l, b =>
    if (nxt o n).2 = 0 then ((if (if wh = 0 then (if F o = (-1) then FARC else F o) < l else l < (if F o = (-1) then FARC else F o)) then (if F o = (-1) then FARC else F o) else l), (if (if wh = 0 then (if F o = (-1) then FARC else F o) < l else l < (if F o = (-1) then FARC else F o)) then hoR b o n else b), (nxt o n).1)
    else ordG F n wh m (nxt o n).1 (if (if wh = 0 then (if F o = (-1) then FARC else F o) < l else l < (if F o = (-1) then FARC else F o)) then (if F o = (-1) then FARC else F o) else l) (if (if wh = 0 then (if F o = (-1) then FARC else F o) < l else l < (if F o = (-1) then FARC else F o)) then hoR b o n else b)
theorem ord_e {F : Row → Int32} {n : Nat} {wh : Int32} {m : Nat} {o : Row} {l v l2 : Int32} {b b2 : Row} (hm : 1 ≤ m) (h : (nxt o n).2 = 0) (ev : v = (if F o = (-1) then FARC else F o)) (e1 : l2 = (if (if wh = 0 then v < l else l < v) then v else l)) (e2 : b2 = (if (if wh = 0 then v < l else l < v) then hoR b o n else b)) : ordG F n wh m o l b = (l2, b2, (nxt o n).1) := by
  obtain ⟨k, rfl⟩ : ∃ k, m = k + 1 := ⟨m - 1, by omega⟩
  simp only [ordG]; rw [if_pos h, ← ev, ← e1, ← e2]
theorem ord_g {F : Row → Int32} {n : Nat} {wh : Int32} {m : Nat} {o : Row} {l v l2 : Int32} {b b2 : Row} (hm : 1 ≤ m) (h : ¬ (nxt o n).2 = 0) (ev : v = (if F o = (-1) then FARC else F o)) (e1 : l2 = (if (if wh = 0 then v < l else l < v) then v else l)) (e2 : b2 = (if (if wh = 0 then v < l else l < v) then hoR b o n else b)) : ordG F n wh m o l b = ordG F n wh (m - 1) (nxt o n).1 l2 b2 := by
  obtain ⟨k, rfl⟩ : ∃ k, m = k + 1 := ⟨m - 1, by omega⟩
  simp only [ordG]; rw [if_neg h, ← ev, ← e1, ← e2]; rfl
