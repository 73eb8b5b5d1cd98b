theorem in_X7_size_X7 : ∀ w ∈ wsX70, w ∈ wsX7_size := fun w h => List.mem_cons_of_mem _ (List.mem_append_right _ h)
set_option maxHeartbeats 4000000 in
set_option maxRecDepth 100000 in
theorem c_X7_size (l : Launch) (D : va_G) (Y : Nat → ClassId) (g : Nat) (gl : Nat) (gb : Nat) (gt : Nat) (so : Nat) (s_ : Int32) (r_ : Int32) (oc : Int32) (wh : Int32) : Mg l yX7_size wsX7_size ({ frames := 0, cells := 0, slots := 0, locals := 0 }) D Y [(g, .inr (6, [.ref gl, .ref gb, .ref gt, .ref so, .int s_, .int r_, .int oc, .int wh]))] [.ref g] 0 0 (fun vv__ ww__ => (vv__ = some (.int s_) ∧ ww__ = [(g, .inr (6, [.ref gl, .ref gb, .ref gt, .ref so, .int s_, .int r_, .int oc, .int wh]))])) := by
  refine Mg_of (cc := cX7_size) (maxL := 1) (ret := (some .int)) (ls0 := [(0, .ref g)]) RX7 (by decide) rfl rfl rfl (Nat.le_of_ble_eq_true rfl) (fun p__ e__ s__ m__ b__ t__ c__ X hr hn => ?_)
  refine V_aload_n X 0 rfl dX7_size_0 ?_
  refine V_get (C := RX7) (T := TX7) (N := 8) (ci := 6) (v := .int s_) X in_X7_size_X7 0 rfl rfl 4 (by decide) (List.mem_of_getElem? (i := 1) rfl) rfl rfl dX7_size_1 ?_
  exact V_iret X hr dX7_size_4 (⟨rfl, rfl⟩)

theorem in_X7_right_X7 : ∀ w ∈ wsX70, w ∈ wsX7_right := fun w h => List.mem_cons_of_mem _ (List.mem_append_right _ h)
set_option maxHeartbeats 4000000 in
set_option maxRecDepth 100000 in
theorem c_X7_right (l : Launch) (D : va_G) (Y : Nat → ClassId) (g : Nat) (gl : Nat) (gb : Nat) (gt : Nat) (so : Nat) (s_ : Int32) (r_ : Int32) (oc : Int32) (wh : Int32) : Mg l yX7_right wsX7_right ({ frames := 0, cells := 0, slots := 0, locals := 0 }) D Y [(g, .inr (6, [.ref gl, .ref gb, .ref gt, .ref so, .int s_, .int r_, .int oc, .int wh]))] [.ref g] 0 0 (fun vv__ ww__ => (vv__ = some (.int r_) ∧ ww__ = [(g, .inr (6, [.ref gl, .ref gb, .ref gt, .ref so, .int s_, .int r_, .int oc, .int wh]))])) := by
  refine Mg_of (cc := cX7_right) (maxL := 1) (ret := (some .int)) (ls0 := [(0, .ref g)]) RX7 (by decide) rfl rfl rfl (Nat.le_of_ble_eq_true rfl) (fun p__ e__ s__ m__ b__ t__ c__ X hr hn => ?_)
  refine V_aload_n X 0 rfl dX7_right_0 ?_
  refine V_get (C := RX7) (T := TX7) (N := 8) (ci := 6) (v := .int r_) X in_X7_right_X7 0 rfl rfl 5 (by decide) (List.mem_of_getElem? (i := 1) rfl) rfl rfl dX7_right_1 ?_
  exact V_iret X hr dX7_right_4 (⟨rfl, rfl⟩)

theorem in_X7_outcome_X7 : ∀ w ∈ wsX70, w ∈ wsX7_outcome := fun w h => List.mem_cons_of_mem _ (List.mem_append_right _ h)
set_option maxHeartbeats 4000000 in
set_option maxRecDepth 100000 in
theorem c_X7_outcome (l : Launch) (D : va_G) (Y : Nat → ClassId) (g : Nat) (gl : Nat) (gb : Nat) (gt : Nat) (so : Nat) (s_ : Int32) (r_ : Int32) (oc : Int32) (wh : Int32) : Mg l yX7_outcome wsX7_outcome ({ frames := 0, cells := 0, slots := 0, locals := 0 }) D Y [(g, .inr (6, [.ref gl, .ref gb, .ref gt, .ref so, .int s_, .int r_, .int oc, .int wh]))] [.ref g] 0 0 (fun vv__ ww__ => (vv__ = some (.int oc) ∧ ww__ = [(g, .inr (6, [.ref gl, .ref gb, .ref gt, .ref so, .int s_, .int r_, .int oc, .int wh]))])) := by
  refine Mg_of (cc := cX7_outcome) (maxL := 1) (ret := (some .int)) (ls0 := [(0, .ref g)]) RX7 (by decide) rfl rfl rfl (Nat.le_of_ble_eq_true rfl) (fun p__ e__ s__ m__ b__ t__ c__ X hr hn => ?_)
  refine V_aload_n X 0 rfl dX7_outcome_0 ?_
  refine V_get (C := RX7) (T := TX7) (N := 8) (ci := 6) (v := .int oc) X in_X7_outcome_X7 0 rfl rfl 6 (by decide) (List.mem_of_getElem? (i := 1) rfl) rfl rfl dX7_outcome_1 ?_
  exact V_iret X hr dX7_outcome_4 (⟨rfl, rfl⟩)

theorem in_X7_where_X7 : ∀ w ∈ wsX70, w ∈ wsX7_where := fun w h => List.mem_cons_of_mem _ (List.mem_append_right _ h)
set_option maxHeartbeats 4000000 in
set_option maxRecDepth 100000 in
theorem c_X7_where (l : Launch) (D : va_G) (Y : Nat → ClassId) (g : Nat) (gl : Nat) (gb : Nat) (gt : Nat) (so : Nat) (s_ : Int32) (r_ : Int32) (oc : Int32) (wh : Int32) : Mg l yX7_where wsX7_where ({ frames := 0, cells := 0, slots := 0, locals := 0 }) D Y [(g, .inr (6, [.ref gl, .ref gb, .ref gt, .ref so, .int s_, .int r_, .int oc, .int wh]))] [.ref g] 0 0 (fun vv__ ww__ => (vv__ = some (.int wh) ∧ ww__ = [(g, .inr (6, [.ref gl, .ref gb, .ref gt, .ref so, .int s_, .int r_, .int oc, .int wh]))])) := by
  refine Mg_of (cc := cX7_where) (maxL := 1) (ret := (some .int)) (ls0 := [(0, .ref g)]) RX7 (by decide) rfl rfl rfl (Nat.le_of_ble_eq_true rfl) (fun p__ e__ s__ m__ b__ t__ c__ X hr hn => ?_)
  refine V_aload_n X 0 rfl dX7_where_0 ?_
  refine V_get (C := RX7) (T := TX7) (N := 8) (ci := 6) (v := .int wh) X in_X7_where_X7 0 rfl rfl 7 (by decide) (List.mem_of_getElem? (i := 1) rfl) rfl rfl dX7_where_1 ?_
  exact V_iret X hr dX7_where_4 (⟨rfl, rfl⟩)

theorem in_X7_song_X7 : ∀ w ∈ wsX70, w ∈ wsX7_song := fun w h => List.mem_cons_of_mem _ (List.mem_append_right _ h)
set_option maxHeartbeats 4000000 in
set_option maxRecDepth 100000 in
theorem c_X7_song (l : Launch) (D : va_G) (Y : Nat → ClassId) (g : Nat) (gl : Nat) (gb : Nat) (gt : Nat) (so : Nat) (s_ : Int32) (r_ : Int32) (oc : Int32) (wh : Int32) : Mg l yX7_song wsX7_song ({ frames := 0, cells := 0, slots := 0, locals := 0 }) D Y [(g, .inr (6, [.ref gl, .ref gb, .ref gt, .ref so, .int s_, .int r_, .int oc, .int wh]))] [.ref g] 0 0 (fun vv__ ww__ => (vv__ = some (.ref so) ∧ ww__ = [(g, .inr (6, [.ref gl, .ref gb, .ref gt, .ref so, .int s_, .int r_, .int oc, .int wh]))])) := by
  refine Mg_of (cc := cX7_song) (maxL := 1) (ret := (some (.object "TuneAndWords$Song"))) (ls0 := [(0, .ref g)]) RX7 (by decide) rfl rfl rfl (Nat.le_of_ble_eq_true rfl) (fun p__ e__ s__ m__ b__ t__ c__ X hr hn => ?_)
  refine V_aload_n X 0 rfl dX7_song_0 ?_
  refine V_get (C := RX7) (T := TX7) (N := 8) (ci := 6) (v := .ref so) X in_X7_song_X7 0 rfl rfl 3 (by decide) (List.mem_of_getElem? (i := 1) rfl) rfl rfl dX7_song_1 ?_
  exact V_aret X hr (Or.inr ⟨_, rfl⟩) dX7_song_4 (⟨rfl, rfl⟩)

theorem in_X7_isGoing_X7 : ∀ w ∈ wsX70, w ∈ wsX7_isGoing := fun w h => List.mem_cons_of_mem _ (List.mem_append_right _ h)
set_option maxHeartbeats 4000000 in
set_option maxRecDepth 100000 in
theorem c_X7_isGoing (l : Launch) (D : va_G) (Y : Nat → ClassId) (g : Nat) (gl : Nat) (gb : Nat) (gt : Nat) (so : Nat) (s_ : Int32) (r_ : Int32) (oc : Int32) (wh : Int32) : Mg l yX7_isGoing wsX7_isGoing ({ frames := 0, cells := 0, slots := 0, locals := 0 }) D Y [(g, .inr (6, [.ref gl, .ref gb, .ref gt, .ref so, .int s_, .int r_, .int oc, .int wh]))] [.ref g] 0 0 (fun vv__ ww__ => (vv__ = some (.int (1 : Int32)) ∧ ww__ = [(g, .inr (6, [.ref gl, .ref gb, .ref gt, .ref so, .int s_, .int r_, .int oc, .int wh]))] ∧ (oc.toInt = 3)) ∨ (vv__ = some (.int (0 : Int32)) ∧ ww__ = [(g, .inr (6, [.ref gl, .ref gb, .ref gt, .ref so, .int s_, .int r_, .int oc, .int wh]))] ∧ (oc.toInt ≠ 3))) := by
  refine Mg_of (cc := cX7_isGoing) (maxL := 1) (ret := (some .boolean)) (ls0 := [(0, .ref g)]) RX7 (by decide) rfl rfl rfl (Nat.le_of_ble_eq_true rfl) (fun p__ e__ s__ m__ b__ t__ c__ X hr hn => ?_)
  refine V_aload_n X 0 rfl dX7_isGoing_0 ?_
  refine V_get (C := RX7) (T := TX7) (N := 8) (ci := 6) (v := .int oc) X in_X7_isGoing_X7 0 rfl rfl 6 (by decide) (List.mem_of_getElem? (i := 1) rfl) rfl rfl dX7_isGoing_1 ?_
  refine V_iconst (v := (3 : Int32)) X (by decide) dX7_isGoing_4 ?_
  refine V_icmp_ne X rfl (show (3 : Int32).toInt = 3 from by decide) 12 dX7_isGoing_5 (by decide) (fun c_5 => ?_) (fun c_5 => ?_)
  · refine V_iconst (v := (0 : Int32)) X (by decide) dX7_isGoing_12 ?_
    exact V_zret X hr rfl dX7_isGoing_13 (Or.inr (⟨rfl, rfl, c_5⟩))
  · refine V_iconst (v := (1 : Int32)) X (by decide) dX7_isGoing_8 ?_
    refine V_goto X 13 (by decide) dX7_isGoing_9 ?_
    exact V_zret X hr rfl dX7_isGoing_13 (Or.inl ⟨rfl, rfl, c_5⟩)

theorem in_X7_isRight_X7 : ∀ w ∈ wsX70, w ∈ wsX7_isRight := fun w h => List.mem_cons_of_mem _ (List.mem_append_right _ h)
set_option maxHeartbeats 4000000 in
set_option maxRecDepth 100000 in
theorem c_X7_isRight (l : Launch) (D : va_G) (Y : Nat → ClassId) (g : Nat) (gl : Nat) (gb : Nat) (gt : Nat) (so : Nat) (s_ : Int32) (r_ : Int32) (oc : Int32) (wh : Int32) : Mg l yX7_isRight wsX7_isRight ({ frames := 0, cells := 0, slots := 0, locals := 0 }) D Y [(g, .inr (6, [.ref gl, .ref gb, .ref gt, .ref so, .int s_, .int r_, .int oc, .int wh]))] [.ref g] 0 0 (fun vv__ ww__ => (vv__ = some (.int (1 : Int32)) ∧ ww__ = [(g, .inr (6, [.ref gl, .ref gb, .ref gt, .ref so, .int s_, .int r_, .int oc, .int wh]))] ∧ (r_.toInt = s_.toInt)) ∨ (vv__ = some (.int (0 : Int32)) ∧ ww__ = [(g, .inr (6, [.ref gl, .ref gb, .ref gt, .ref so, .int s_, .int r_, .int oc, .int wh]))] ∧ (r_.toInt ≠ s_.toInt))) := by
  refine Mg_of (cc := cX7_isRight) (maxL := 1) (ret := (some .boolean)) (ls0 := [(0, .ref g)]) RX7 (by decide) rfl rfl rfl (Nat.le_of_ble_eq_true rfl) (fun p__ e__ s__ m__ b__ t__ c__ X hr hn => ?_)
  refine V_aload_n X 0 rfl dX7_isRight_0 ?_
  refine V_get (C := RX7) (T := TX7) (N := 8) (ci := 6) (v := .int r_) X in_X7_isRight_X7 0 rfl rfl 5 (by decide) (List.mem_of_getElem? (i := 1) rfl) rfl rfl dX7_isRight_1 ?_
  refine V_aload_n X 0 rfl dX7_isRight_4 ?_
  refine V_get (C := RX7) (T := TX7) (N := 8) (ci := 6) (v := .int s_) X in_X7_isRight_X7 0 rfl rfl 4 (by decide) (List.mem_of_getElem? (i := 2) rfl) rfl rfl dX7_isRight_5 ?_
  refine V_icmp_ne X rfl rfl 15 dX7_isRight_8 (by decide) (fun c_8 => ?_) (fun c_8 => ?_)
  · refine V_iconst (v := (0 : Int32)) X (by decide) dX7_isRight_15 ?_
    exact V_zret X hr rfl dX7_isRight_16 (Or.inr (⟨rfl, rfl, c_8⟩))
  · refine V_iconst (v := (1 : Int32)) X (by decide) dX7_isRight_11 ?_
    refine V_goto X 16 (by decide) dX7_isRight_12 ?_
    exact V_zret X hr rfl dX7_isRight_16 (Or.inl ⟨rfl, rfl, c_8⟩)

theorem in_X7_comeOut_X7 : ∀ w ∈ wsX70, w ∈ wsX7_comeOut := fun w h => List.mem_cons_of_mem _ (List.mem_append_right _ h)
set_option maxHeartbeats 4000000 in
set_option maxRecDepth 100000 in
theorem c_X7_comeOut (l : Launch) (D : va_G) (Y : Nat → ClassId) (g : Nat) (x : Int32) (y : Int32) (gl : Nat) (gb : Nat) (gt : Nat) (so : Nat) (s_ : Int32) (r_ : Int32) (oc : Int32) (wh : Int32) : Mg l yX7_comeOut wsX7_comeOut ({ frames := 0, cells := 0, slots := 0, locals := 0 }) D Y [(g, .inr (6, [.ref gl, .ref gb, .ref gt, .ref so, .int s_, .int r_, .int oc, .int wh]))] [.ref g, .int x, .int y] 0 0 (fun vv__ ww__ => (vv__ = none ∧ ww__ = [(g, .inr (6, [.ref gl, .ref gb, .ref gt, .ref so, .int s_, .int r_, .int x, .int y]))])) := by
  refine Mg_of (cc := cX7_comeOut) (maxL := 3) (ret := none) (ls0 := [(0, .ref g), (1, .int x), (2, .int y)]) RX7 (by decide) rfl rfl rfl (Nat.le_of_ble_eq_true rfl) (fun p__ e__ s__ m__ b__ t__ c__ X hr hn => ?_)
  refine V_aload_n X 0 rfl dX7_comeOut_0 ?_
  refine V_iload_n X 1 rfl dX7_comeOut_1 ?_
  refine V_put (C := RX7) (T := TX7) (N := 8) (ci := 6) (v := .int x) (ty := tyX7 6) (ws' := [(g, .inr (6, [.ref gl, .ref gb, .ref gt, .ref so, .int s_, .int r_, .int x, .int wh]))]) X in_X7_comeOut_X7 0 rfl rfl 6 (by decide) (List.mem_of_getElem? (i := 1) rfl) rfl tyX7 tyX7_ok nmX7 rfl (tyX7_ok 6 (by decide)) rfl rfl (Nat.le_of_ble_eq_true rfl) rfl dX7_comeOut_2 ?_
  refine V_aload_n X 0 rfl dX7_comeOut_5 ?_
  refine V_iload_n X 2 rfl dX7_comeOut_6 ?_
  refine V_put (C := RX7) (T := TX7) (N := 8) (ci := 6) (v := .int y) (ty := tyX7 7) (ws' := [(g, .inr (6, [.ref gl, .ref gb, .ref gt, .ref so, .int s_, .int r_, .int x, .int y]))]) X in_X7_comeOut_X7 0 rfl rfl 7 (by decide) (List.mem_of_getElem? (i := 2) rfl) rfl tyX7 tyX7_ok nmX7 rfl (tyX7_ok 7 (by decide)) rfl rfl (Nat.le_of_ble_eq_true rfl) rfl dX7_comeOut_7 ?_
  exact V_vret X hr dX7_comeOut_10 (⟨rfl, rfl⟩)

theorem in_X7_last_X7 : ∀ w ∈ wsX70, w ∈ wsX7_last := fun w h => List.mem_cons_of_mem _ (List.mem_append_right _ h)
set_option maxHeartbeats 4000000 in
set_option maxRecDepth 100000 in
theorem c_X7_last (l : Launch) (D : va_G) (Y : Nat → ClassId) (g : Nat) (gl : Nat) (gb : Nat) (gt : Nat) (so : Nat) (s_ : Int32) (r_ : Int32) (oc : Int32) (wh : Int32) (fl : Nat → Int32) (fb : Nat → Int32) (ft : Nat → Int32) (H : Hist) (hSG : SG fl fb ft H) (ts_ : s_.toInt = ((H.length : Nat) : Int)) (tr_ : r_.toInt = ((hR H : Nat) : Int)) (h0 : 0 < H.length) (h60 : H.length ≤ 60) : Mg l yX7_last wsX7_last ({ frames := 1, cells := 0, slots := 0, locals := 21 }) D Y [(g, .inr (6, [.ref gl, .ref gb, .ref gt, .ref so, .int s_, .int r_, .int oc, .int wh])), (gl, .inl (Y 0, 60, .inl fl))] [.ref g] 0 0 (fun vv__ ww__ => (∃ (r : Int32), vv__ = some (.int r) ∧ ww__ = [(g, .inr (6, [.ref gl, .ref gb, .ref gt, .ref so, .int s_, .int r_, .int oc, .int wh])), (gl, .inl (Y 0, 60, .inl fl))] ∧ (r.toInt = ((hLast H : Nat) : Int)) ∧ (r = fl (H.length - 1)))) := by
  refine Mg_of (cc := cX7_last) (maxL := 1) (ret := (some .int)) (ls0 := [(0, .ref g)]) RX7 (by decide) rfl rfl rfl (Nat.le_of_ble_eq_true rfl) (fun p__ e__ s__ m__ b__ t__ c__ X hr hn => ?_)
  refine V_aload_n X 0 rfl dX7_last_0 ?_
  refine V_get (C := RX7) (T := TX7) (N := 8) (ci := 6) (v := .ref gl) X in_X7_last_X7 0 rfl rfl 0 (by decide) (List.mem_of_getElem? (i := 1) rfl) rfl rfl dX7_last_1 ?_
  refine V_aload_n X 0 rfl dX7_last_4 ?_
  refine V_get (C := RX7) (T := TX7) (N := 8) (ci := 6) (v := .int s_) X in_X7_last_X7 0 rfl rfl 4 (by decide) (List.mem_of_getElem? (i := 2) rfl) rfl rfl dX7_last_5 ?_
  refine V_iconst (v := (1 : Int32)) X (by decide) dX7_last_8 ?_
  refine V_isubZ X ts_ (show (1 : Int32).toInt = 1 from by decide) (by omega) (by omega) dX7_last_9 (fun x_1 ex_1 tx_1 => ?_)
  have tx_1 : x_1.toInt = (((H.length - 1) : Nat) : Int) := by omega
  refine V_callS (wr := [(g, .inr (6, [.ref gl, .ref gb, .ref gt, .ref so, .int s_, .int r_, .int oc, .int wh]))]) (st := []) X (c_X1_at l D Y gl x_1 (H.length - 1) 60 fl tx_1 (by omega) (by omega)) 2 gX7_last_X1_at rfl (by decide +kernel) ⟨rfl, rfl⟩ ⟨Nat.le_of_ble_eq_true rfl, Nat.le_of_ble_eq_true rfl⟩ [1] [0] rfl rfl rfl rfl (by decide) rfl rfl (Nat.le_of_ble_eq_true rfl) ⟨Nat.le_of_ble_eq_true rfl, Nat.le_of_ble_eq_true rfl⟩ dX7_last_10 (fun v_10 w_10 h_10 => ?_)
  obtain ⟨rfl, rfl⟩ := h_10
  refine V_to (pc' := 13) (ls' := [(0, .ref g)]) (st' := [.int (fl (H.length - 1))]) (ws' := [(g, .inr (6, [.ref gl, .ref gb, .ref gt, .ref so, .int s_, .int r_, .int oc, .int wh])), (gl, .inl (Y 0, 60, .inl fl))]) ?_ rfl rfl rfl rfl
  exact V_iret X hr dX7_last_13 (⟨(fl (H.length - 1)), rfl, rfl, SG_last hSG h0, rfl⟩)

theorem in_X7_lineAt_X7 : ∀ w ∈ wsX70, w ∈ wsX7_lineAt := fun w h => List.mem_cons_of_mem _ (List.mem_append_right _ h)
set_option maxHeartbeats 4000000 in
set_option maxRecDepth 100000 in
theorem c_X7_lineAt (l : Launch) (D : va_G) (Y : Nat → ClassId) (g : Nat) (gl : Nat) (gb : Nat) (gt : Nat) (so : Nat) (s_ : Int32) (r_ : Int32) (oc : Int32) (wh : Int32) (x : Int32) (k : Nat) (fl : Nat → Int32) (fb : Nat → Int32) (ft : Nat → Int32) (H : Hist) (hSG : SG fl fb ft H) (ts_ : s_.toInt = ((H.length : Nat) : Int)) (tr_ : r_.toInt = ((hR H : Nat) : Int)) (tx : x.toInt = ((k : Nat) : Int)) (hk : k < H.length) (h60 : H.length ≤ 60) : Mg l yX7_lineAt wsX7_lineAt ({ frames := 1, cells := 0, slots := 0, locals := 21 }) D Y [(g, .inr (6, [.ref gl, .ref gb, .ref gt, .ref so, .int s_, .int r_, .int oc, .int wh])), (gl, .inl (Y 0, 60, .inl fl))] [.ref g, .int x] 0 0 (fun vv__ ww__ => (∃ (r : Int32), vv__ = some (.int r) ∧ ww__ = [(g, .inr (6, [.ref gl, .ref gb, .ref gt, .ref so, .int s_, .int r_, .int oc, .int wh])), (gl, .inl (Y 0, 60, .inl fl))] ∧ (r.toInt = (((hAt H k).1 : Nat) : Int)))) := by
  refine Mg_of (cc := cX7_lineAt) (maxL := 2) (ret := (some .int)) (ls0 := [(0, .ref g), (1, .int x)]) RX7 (by decide) rfl rfl rfl (Nat.le_of_ble_eq_true rfl) (fun p__ e__ s__ m__ b__ t__ c__ X hr hn => ?_)
  refine V_aload_n X 0 rfl dX7_lineAt_0 ?_
  refine V_get (C := RX7) (T := TX7) (N := 8) (ci := 6) (v := .ref gl) X in_X7_lineAt_X7 0 rfl rfl 0 (by decide) (List.mem_of_getElem? (i := 1) rfl) rfl rfl dX7_lineAt_1 ?_
  refine V_iload_n X 1 rfl dX7_lineAt_4 ?_
  refine V_callS (wr := [(g, .inr (6, [.ref gl, .ref gb, .ref gt, .ref so, .int s_, .int r_, .int oc, .int wh]))]) (st := []) X (c_X1_at l D Y gl x k 60 fl tx (by omega) (by omega)) 2 gX7_lineAt_X1_at rfl (by decide +kernel) ⟨rfl, rfl⟩ ⟨Nat.le_of_ble_eq_true rfl, Nat.le_of_ble_eq_true rfl⟩ [1] [0] rfl rfl rfl rfl (by decide) rfl rfl (Nat.le_of_ble_eq_true rfl) ⟨Nat.le_of_ble_eq_true rfl, Nat.le_of_ble_eq_true rfl⟩ dX7_lineAt_5 (fun v_5 w_5 h_5 => ?_)
  obtain ⟨rfl, rfl⟩ := h_5
  refine V_to (pc' := 8) (ls' := [(0, .ref g), (1, .int x)]) (st' := [.int (fl k)]) (ws' := [(g, .inr (6, [.ref gl, .ref gb, .ref gt, .ref so, .int s_, .int r_, .int oc, .int wh])), (gl, .inl (Y 0, 60, .inl fl))]) ?_ rfl rfl rfl rfl
  exact V_iret X hr dX7_lineAt_8 (⟨(fl k), rfl, rfl, (hSG.1 k hk).1⟩)

theorem in_X7_broughtUpBy_X7 : ∀ w ∈ wsX70, w ∈ wsX7_broughtUpBy := fun w h => List.mem_cons_of_mem _ (List.mem_append_right _ h)
set_option maxHeartbeats 4000000 in
set_option maxRecDepth 100000 in
theorem c_X7_broughtUpBy (l : Launch) (D : va_G) (Y : Nat → ClassId) (g : Nat) (gl : Nat) (gb : Nat) (gt : Nat) (so : Nat) (s_ : Int32) (r_ : Int32) (oc : Int32) (wh : Int32) (x : Int32) (k : Nat) (fl : Nat → Int32) (fb : Nat → Int32) (ft : Nat → Int32) (H : Hist) (hSG : SG fl fb ft H) (ts_ : s_.toInt = ((H.length : Nat) : Int)) (tr_ : r_.toInt = ((hR H : Nat) : Int)) (tx : x.toInt = ((k : Nat) : Int)) (hk : k < H.length) (h60 : H.length ≤ 60) : Mg l yX7_broughtUpBy wsX7_broughtUpBy ({ frames := 1, cells := 0, slots := 0, locals := 21 }) D Y [(g, .inr (6, [.ref gl, .ref gb, .ref gt, .ref so, .int s_, .int r_, .int oc, .int wh])), (gb, .inl (Y 0, 60, .inl fb))] [.ref g, .int x] 0 0 (fun vv__ ww__ => (∃ (r : Int32), vv__ = some (.int r) ∧ ww__ = [(g, .inr (6, [.ref gl, .ref gb, .ref gt, .ref so, .int s_, .int r_, .int oc, .int wh])), (gb, .inl (Y 0, 60, .inl fb))] ∧ (r.toInt = (hAt H k).2))) := by
  refine Mg_of (cc := cX7_broughtUpBy) (maxL := 2) (ret := (some .int)) (ls0 := [(0, .ref g), (1, .int x)]) RX7 (by decide) rfl rfl rfl (Nat.le_of_ble_eq_true rfl) (fun p__ e__ s__ m__ b__ t__ c__ X hr hn => ?_)
  refine V_aload_n X 0 rfl dX7_broughtUpBy_0 ?_
  refine V_get (C := RX7) (T := TX7) (N := 8) (ci := 6) (v := .ref gb) X in_X7_broughtUpBy_X7 0 rfl rfl 1 (by decide) (List.mem_of_getElem? (i := 1) rfl) rfl rfl dX7_broughtUpBy_1 ?_
  refine V_iload_n X 1 rfl dX7_broughtUpBy_4 ?_
  refine V_callS (wr := [(g, .inr (6, [.ref gl, .ref gb, .ref gt, .ref so, .int s_, .int r_, .int oc, .int wh]))]) (st := []) X (c_X1_at l D Y gb x k 60 fb tx (by omega) (by omega)) 2 gX7_broughtUpBy_X1_at rfl (by decide +kernel) ⟨rfl, rfl⟩ ⟨Nat.le_of_ble_eq_true rfl, Nat.le_of_ble_eq_true rfl⟩ [1] [0] rfl rfl rfl rfl (by decide) rfl rfl (Nat.le_of_ble_eq_true rfl) ⟨Nat.le_of_ble_eq_true rfl, Nat.le_of_ble_eq_true rfl⟩ dX7_broughtUpBy_5 (fun v_5 w_5 h_5 => ?_)
  obtain ⟨rfl, rfl⟩ := h_5
  refine V_to (pc' := 8) (ls' := [(0, .ref g), (1, .int x)]) (st' := [.int (fb k)]) (ws' := [(g, .inr (6, [.ref gl, .ref gb, .ref gt, .ref so, .int s_, .int r_, .int oc, .int wh])), (gb, .inl (Y 0, 60, .inl fb))]) ?_ rfl rfl rfl rfl
  exact V_iret X hr dX7_broughtUpBy_8 (⟨(fb k), rfl, rfl, (hSG.1 k hk).2⟩)

theorem in_X7_timesSung_X7 : ∀ w ∈ wsX70, w ∈ wsX7_timesSung := fun w h => List.mem_cons_of_mem _ (List.mem_append_right _ h)
set_option maxHeartbeats 4000000 in
set_option maxRecDepth 100000 in
theorem c_X7_timesSung (l : Launch) (D : va_G) (Y : Nat → ClassId) (g : Nat) (gl : Nat) (gb : Nat) (gt : Nat) (so : Nat) (s_ : Int32) (r_ : Int32) (oc : Int32) (wh : Int32) (x : Int32) (l_ : Nat) (fl : Nat → Int32) (fb : Nat → Int32) (ft : Nat → Int32) (H : Hist) (hSG : SG fl fb ft H) (ts_ : s_.toInt = ((H.length : Nat) : Int)) (tr_ : r_.toInt = ((hR H : Nat) : Int)) (tx : x.toInt = ((l_ : Nat) : Int)) (hl : l_ < 12) : Mg l yX7_timesSung wsX7_timesSung ({ frames := 1, cells := 0, slots := 0, locals := 21 }) D Y [(g, .inr (6, [.ref gl, .ref gb, .ref gt, .ref so, .int s_, .int r_, .int oc, .int wh])), (gt, .inl (Y 0, 12, .inl ft))] [.ref g, .int x] 0 0 (fun vv__ ww__ => (∃ (r : Int32), vv__ = some (.int r) ∧ ww__ = [(g, .inr (6, [.ref gl, .ref gb, .ref gt, .ref so, .int s_, .int r_, .int oc, .int wh])), (gt, .inl (Y 0, 12, .inl ft))] ∧ (r.toInt = ((hCnt H l_ : Nat) : Int)))) := by
  refine Mg_of (cc := cX7_timesSung) (maxL := 2) (ret := (some .int)) (ls0 := [(0, .ref g), (1, .int x)]) RX7 (by decide) rfl rfl rfl (Nat.le_of_ble_eq_true rfl) (fun p__ e__ s__ m__ b__ t__ c__ X hr hn => ?_)
  refine V_aload_n X 0 rfl dX7_timesSung_0 ?_
  refine V_get (C := RX7) (T := TX7) (N := 8) (ci := 6) (v := .ref gt) X in_X7_timesSung_X7 0 rfl rfl 2 (by decide) (List.mem_of_getElem? (i := 1) rfl) rfl rfl dX7_timesSung_1 ?_
  refine V_iload_n X 1 rfl dX7_timesSung_4 ?_
  refine V_callS (wr := [(g, .inr (6, [.ref gl, .ref gb, .ref gt, .ref so, .int s_, .int r_, .int oc, .int wh]))]) (st := []) X (c_X1_at l D Y gt x l_ 12 ft tx hl (by omega)) 2 gX7_timesSung_X1_at rfl (by decide +kernel) ⟨rfl, rfl⟩ ⟨Nat.le_of_ble_eq_true rfl, Nat.le_of_ble_eq_true rfl⟩ [1] [0] rfl rfl rfl rfl (by decide) rfl rfl (Nat.le_of_ble_eq_true rfl) ⟨Nat.le_of_ble_eq_true rfl, Nat.le_of_ble_eq_true rfl⟩ dX7_timesSung_5 (fun v_5 w_5 h_5 => ?_)
  obtain ⟨rfl, rfl⟩ := h_5
  refine V_to (pc' := 8) (ls' := [(0, .ref g), (1, .int x)]) (st' := [.int (ft l_)]) (ws' := [(g, .inr (6, [.ref gl, .ref gb, .ref gt, .ref so, .int s_, .int r_, .int oc, .int wh])), (gt, .inl (Y 0, 12, .inl ft))]) ?_ rfl rfl rfl rfl
  exact V_iret X hr dX7_timesSung_8 (⟨(ft l_), rfl, rfl, hSG.2.1 l_ hl⟩)

theorem in_X7_clear_X7 : ∀ w ∈ wsX70, w ∈ wsX7_clear := fun w h => List.mem_cons_of_mem _ (List.mem_append_right _ h)
set_option maxHeartbeats 4000000 in
set_option maxRecDepth 100000 in
theorem c_X7_clear (l : Launch) (D : va_G) (Y : Nat → ClassId) (so2 : Nat) (g : Nat) (gl : Nat) (gb : Nat) (gt : Nat) (so : Nat) (s_ : Int32) (r_ : Int32) (oc : Int32) (wh : Int32) (fl : Nat → Int32) (fb : Nat → Int32) (ft : Nat → Int32) : Mg l yX7_clear wsX7_clear ({ frames := 1, cells := 0, slots := 0, locals := 23 }) D Y [(g, .inr (6, [.ref gl, .ref gb, .ref gt, .ref so, .int s_, .int r_, .int oc, .int wh])), (gt, .inl (Y 0, 12, .inl ft))] [.ref g, .ref so2] 0 0 (fun vv__ ww__ => (∃ (ft2 : Nat → Int32), vv__ = none ∧ ww__ = [(g, .inr (6, [.ref gl, .ref gb, .ref gt, .ref so2, .int (0 : Int32), .int (0 : Int32), .int (3 : Int32), .int (0 : Int32)])), (gt, .inl (Y 0, 12, .inl ft2))] ∧ (SG fl fb ft2 []))) := by
  refine Mg_of (cc := cX7_clear) (maxL := 2) (ret := none) (ls0 := [(0, .ref g), (1, .ref so2)]) RX7 (by decide) rfl rfl rfl (Nat.le_of_ble_eq_true rfl) (fun p__ e__ s__ m__ b__ t__ c__ X hr hn => ?_)
  refine V_aload_n X 0 rfl dX7_clear_0 ?_
  refine V_aload_n X 1 rfl dX7_clear_1 ?_
  refine V_put (C := RX7) (T := TX7) (N := 8) (ci := 6) (v := .ref so2) (ty := tyX7 3) (ws' := [(g, .inr (6, [.ref gl, .ref gb, .ref gt, .ref so2, .int s_, .int r_, .int oc, .int wh])), (gt, .inl (Y 0, 12, .inl ft))]) X in_X7_clear_X7 0 rfl rfl 3 (by decide) (List.mem_of_getElem? (i := 1) rfl) rfl tyX7 tyX7_ok nmX7 rfl (tyX7_ok 3 (by decide)) rfl rfl (Nat.le_of_ble_eq_true rfl) rfl dX7_clear_2 ?_
  refine V_aload_n X 0 rfl dX7_clear_5 ?_
  refine V_iconst (v := (0 : Int32)) X (by decide) dX7_clear_6 ?_
  refine V_put (C := RX7) (T := TX7) (N := 8) (ci := 6) (v := .int (0 : Int32)) (ty := tyX7 4) (ws' := [(g, .inr (6, [.ref gl, .ref gb, .ref gt, .ref so2, .int (0 : Int32), .int r_, .int oc, .int wh])), (gt, .inl (Y 0, 12, .inl ft))]) X in_X7_clear_X7 0 rfl rfl 4 (by decide) (List.mem_of_getElem? (i := 2) rfl) rfl tyX7 tyX7_ok nmX7 rfl (tyX7_ok 4 (by decide)) rfl rfl (Nat.le_of_ble_eq_true rfl) rfl dX7_clear_7 ?_
  refine V_aload_n X 0 rfl dX7_clear_10 ?_
  refine V_iconst (v := (0 : Int32)) X (by decide) dX7_clear_11 ?_
  refine V_put (C := RX7) (T := TX7) (N := 8) (ci := 6) (v := .int (0 : Int32)) (ty := tyX7 5) (ws' := [(g, .inr (6, [.ref gl, .ref gb, .ref gt, .ref so2, .int (0 : Int32), .int (0 : Int32), .int oc, .int wh])), (gt, .inl (Y 0, 12, .inl ft))]) X in_X7_clear_X7 0 rfl rfl 5 (by decide) (List.mem_of_getElem? (i := 3) rfl) rfl tyX7 tyX7_ok nmX7 rfl (tyX7_ok 5 (by decide)) rfl rfl (Nat.le_of_ble_eq_true rfl) rfl dX7_clear_12 ?_
  refine V_aload_n X 0 rfl dX7_clear_15 ?_
  refine V_iconst (v := (3 : Int32)) X (by decide) dX7_clear_16 ?_
  refine V_put (C := RX7) (T := TX7) (N := 8) (ci := 6) (v := .int (3 : Int32)) (ty := tyX7 6) (ws' := [(g, .inr (6, [.ref gl, .ref gb, .ref gt, .ref so2, .int (0 : Int32), .int (0 : Int32), .int (3 : Int32), .int wh])), (gt, .inl (Y 0, 12, .inl ft))]) X in_X7_clear_X7 0 rfl rfl 6 (by decide) (List.mem_of_getElem? (i := 4) rfl) rfl tyX7 tyX7_ok nmX7 rfl (tyX7_ok 6 (by decide)) rfl rfl (Nat.le_of_ble_eq_true rfl) rfl dX7_clear_17 ?_
  refine V_aload_n X 0 rfl dX7_clear_20 ?_
  refine V_iconst (v := (0 : Int32)) X (by decide) dX7_clear_21 ?_
  refine V_put (C := RX7) (T := TX7) (N := 8) (ci := 6) (v := .int (0 : Int32)) (ty := tyX7 7) (ws' := [(g, .inr (6, [.ref gl, .ref gb, .ref gt, .ref so2, .int (0 : Int32), .int (0 : Int32), .int (3 : Int32), .int (0 : Int32)])), (gt, .inl (Y 0, 12, .inl ft))]) X in_X7_clear_X7 0 rfl rfl 7 (by decide) (List.mem_of_getElem? (i := 5) rfl) rfl tyX7 tyX7_ok nmX7 rfl (tyX7_ok 7 (by decide)) rfl rfl (Nat.le_of_ble_eq_true rfl) rfl dX7_clear_22 ?_
  refine V_aload_n X 0 rfl dX7_clear_25 ?_
  refine V_get (C := RX7) (T := TX7) (N := 8) (ci := 6) (v := .ref gt) X in_X7_clear_X7 0 rfl rfl 2 (by decide) (List.mem_of_getElem? (i := 6) rfl) rfl rfl dX7_clear_26 ?_
  refine V_iconst (v := (0 : Int32)) X (by decide) dX7_clear_29 ?_
  refine V_callS (wr := [(g, .inr (6, [.ref gl, .ref gb, .ref gt, .ref so2, .int (0 : Int32), .int (0 : Int32), .int (3 : Int32), .int (0 : Int32)]))]) (st := []) X (c_J7_fill_53178 l D Y gt (0 : Int32) 12 ft (by omega)) 2 gX7_clear_J7_fill_53178 rfl (by decide +kernel) ⟨rfl, rfl⟩ ⟨Nat.le_of_ble_eq_true rfl, Nat.le_of_ble_eq_true rfl⟩ [1] [0] rfl rfl rfl rfl (by decide) rfl rfl (Nat.le_of_ble_eq_true rfl) ⟨Nat.le_of_ble_eq_true rfl, Nat.le_of_ble_eq_true rfl⟩ dX7_clear_30 (fun v_30 w_30 h_30 => ?_)
  obtain ⟨f2_2, rfl, rfl, hhf_3⟩ := h_30
  refine V_to (pc' := 33) (ls' := [(0, .ref g), (1, .ref so2)]) (st' := []) (ws' := [(g, .inr (6, [.ref gl, .ref gb, .ref gt, .ref so2, .int (0 : Int32), .int (0 : Int32), .int (3 : Int32), .int (0 : Int32)])), (gt, .inl (Y 0, 12, .inl f2_2))]) ?_ rfl rfl rfl rfl
  exact V_vret X hr dX7_clear_33 (⟨f2_2, rfl, rfl, SG_nil hhf_3⟩)

theorem in_X7_add_X7 : ∀ w ∈ wsX70, w ∈ wsX7_add := fun w h => List.mem_cons_of_mem _ (List.mem_append_right _ h)
set_option maxHeartbeats 4000000 in
set_option maxRecDepth 100000 in
theorem c_X7_add (l : Launch) (D : va_G) (Y : Nat → ClassId) (g : Nat) (gl : Nat) (gb : Nat) (gt : Nat) (so : Nat) (s_ : Int32) (r_ : Int32) (oc : Int32) (wh : Int32) (x : Int32) (l_ : Nat) (y : Int32) (b_ : Int) (fl : Nat → Int32) (fb : Nat → Int32) (ft : Nat → Int32) (H : Hist) (hSG : SG fl fb ft H) (ts_ : s_.toInt = ((H.length : Nat) : Int)) (tr_ : r_.toInt = ((hR H : Nat) : Int)) (tx : x.toInt = ((l_ : Nat) : Int)) (ty : y.toInt = b_) (hl : l_ < 12) (h60 : H.length < 60) : Mg l yX7_add wsX7_add ({ frames := 2, cells := 0, slots := 0, locals := 41 }) D Y [(g, .inr (6, [.ref gl, .ref gb, .ref gt, .ref so, .int s_, .int r_, .int oc, .int wh])), (gl, .inl (Y 0, 60, .inl fl)), (gb, .inl (Y 0, 60, .inl fb)), (gt, .inl (Y 0, 12, .inl ft))] [.ref g, .int x, .int y] 0 0 (fun vv__ ww__ => (∃ (fl2 : Nat → Int32), ∃ (fb2 : Nat → Int32), ∃ (ft2 : Nat → Int32), ∃ (s2 : Int32), ∃ (r2 : Int32), vv__ = none ∧ ww__ = [(g, .inr (6, [.ref gl, .ref gb, .ref gt, .ref so, .int s2, .int r2, .int oc, .int wh])), (gl, .inl (Y 0, 60, .inl fl2)), (gb, .inl (Y 0, 60, .inl fb2)), (gt, .inl (Y 0, 12, .inl ft2))] ∧ (SG fl2 fb2 ft2 ((l_, b_) :: H)) ∧ (s2.toInt = ((H.length + 1 : Nat) : Int)) ∧ (r2.toInt = ((hR ((l_, b_) :: H) : Nat) : Int)))) := by
  refine Mg_of (cc := cX7_add) (maxL := 3) (ret := none) (ls0 := [(0, .ref g), (1, .int x), (2, .int y)]) RX7 (by decide) rfl rfl rfl (Nat.le_of_ble_eq_true rfl) (fun p__ e__ s__ m__ b__ t__ c__ X hr hn => ?_)
  have hcl : hCnt H l_ ≤ H.length := hCnt_le H l_
  have hrl : hR H ≤ H.length := hR_le H
  have htm : (ft l_).toInt = ((hCnt H l_ : Nat) : Int) := hSG.2.1 l_ hl
  have hla : hLast H < 12 := SG_lt hSG
  refine V_cut1 (fun (q_ : Int32) => (q_.toInt = ((hR ((l_, b_) :: H) : Nat) : Int))) 38 (fun (q_ : Int32) => [(0, .ref g), (1, .int x), (2, .int y)]) (fun (q_ : Int32) => []) (fun (q_ : Int32) => [(g, .inr (6, [.ref gl, .ref gb, .ref gt, .ref so, .int s_, .int q_, .int oc, .int wh])), (gl, .inl (Y 0, 60, .inl fl)), (gb, .inl (Y 0, 60, .inl fb)), (gt, .inl (Y 0, 12, .inl ft))]) (fun q_ hI_38 => ?_) (fun K_38 => ?_)
  · have tq := hI_38
    refine V_to (ls' := [(0, .ref g), (1, .int x), (2, .int y)]) (st' := []) (ws' := [(g, .inr (6, [.ref gl, .ref gb, .ref gt, .ref so, .int s_, .int q_, .int oc, .int wh])), (gl, .inl (Y 0, 60, .inl fl)), (gb, .inl (Y 0, 60, .inl fb)), (gt, .inl (Y 0, 12, .inl ft))]) ?_ rfl rfl rfl rfl
    refine V_aload_n X 0 rfl dX7_add_38 ?_
    refine V_get (C := RX7) (T := TX7) (N := 8) (ci := 6) (v := .ref gl) X in_X7_add_X7 0 rfl rfl 0 (by decide) (List.mem_of_getElem? (i := 3) rfl) rfl rfl dX7_add_39 ?_
    refine V_aload_n X 0 rfl dX7_add_42 ?_
    refine V_get (C := RX7) (T := TX7) (N := 8) (ci := 6) (v := .int s_) X in_X7_add_X7 0 rfl rfl 4 (by decide) (List.mem_of_getElem? (i := 2) rfl) rfl rfl dX7_add_43 ?_
    refine V_iload_n X 1 rfl dX7_add_46 ?_
    refine V_callS (wr := [(g, .inr (6, [.ref gl, .ref gb, .ref gt, .ref so, .int s_, .int q_, .int oc, .int wh])), (gb, .inl (Y 0, 60, .inl fb)), (gt, .inl (Y 0, 12, .inl ft))]) (st := []) X (c_X1_set l D Y gl s_ H.length x 60 fl ts_ h60 (by omega)) 3 gX7_add_X1_set rfl (by decide +kernel) ⟨rfl, rfl⟩ ⟨Nat.le_of_ble_eq_true rfl, Nat.le_of_ble_eq_true rfl⟩ [1] [0, 2, 3] rfl rfl rfl rfl (by decide) rfl rfl (Nat.le_of_ble_eq_true rfl) ⟨Nat.le_of_ble_eq_true rfl, Nat.le_of_ble_eq_true rfl⟩ dX7_add_47 (fun v_47 w_47 h_47 => ?_)
    obtain ⟨rfl, rfl⟩ := h_47
    refine V_to (pc' := 50) (ls' := [(0, .ref g), (1, .int x), (2, .int y)]) (st' := []) (ws' := [(g, .inr (6, [.ref gl, .ref gb, .ref gt, .ref so, .int s_, .int q_, .int oc, .int wh])), (gb, .inl (Y 0, 60, .inl fb)), (gt, .inl (Y 0, 12, .inl ft)), (gl, .inl (Y 0, 60, .inl (upd fl H.length x)))]) ?_ rfl rfl rfl rfl
    refine V_aload_n X 0 rfl dX7_add_50 ?_
    refine V_get (C := RX7) (T := TX7) (N := 8) (ci := 6) (v := .ref gb) X in_X7_add_X7 0 rfl rfl 1 (by decide) (List.mem_of_getElem? (i := 4) rfl) rfl rfl dX7_add_51 ?_
    refine V_aload_n X 0 rfl dX7_add_54 ?_
    refine V_get (C := RX7) (T := TX7) (N := 8) (ci := 6) (v := .int s_) X in_X7_add_X7 0 rfl rfl 4 (by decide) (List.mem_of_getElem? (i := 2) rfl) rfl rfl dX7_add_55 ?_
    refine V_iload_n X 2 rfl dX7_add_58 ?_
    refine V_callS (wr := [(g, .inr (6, [.ref gl, .ref gb, .ref gt, .ref so, .int s_, .int q_, .int oc, .int wh])), (gt, .inl (Y 0, 12, .inl ft)), (gl, .inl (Y 0, 60, .inl (upd fl H.length x)))]) (st := []) X (c_X1_set l D Y gb s_ H.length y 60 fb ts_ h60 (by omega)) 3 gX7_add_X1_set rfl (by decide +kernel) ⟨rfl, rfl⟩ ⟨Nat.le_of_ble_eq_true rfl, Nat.le_of_ble_eq_true rfl⟩ [1] [0, 2, 3] rfl rfl rfl rfl (by decide) rfl rfl (Nat.le_of_ble_eq_true rfl) ⟨Nat.le_of_ble_eq_true rfl, Nat.le_of_ble_eq_true rfl⟩ dX7_add_59 (fun v_59 w_59 h_59 => ?_)
    obtain ⟨rfl, rfl⟩ := h_59
    refine V_to (pc' := 62) (ls' := [(0, .ref g), (1, .int x), (2, .int y)]) (st' := []) (ws' := [(g, .inr (6, [.ref gl, .ref gb, .ref gt, .ref so, .int s_, .int q_, .int oc, .int wh])), (gt, .inl (Y 0, 12, .inl ft)), (gl, .inl (Y 0, 60, .inl (upd fl H.length x))), (gb, .inl (Y 0, 60, .inl (upd fb H.length y)))]) ?_ rfl rfl rfl rfl
    refine V_aload_n X 0 rfl dX7_add_62 ?_
    refine V_get (C := RX7) (T := TX7) (N := 8) (ci := 6) (v := .ref gt) X in_X7_add_X7 0 rfl rfl 2 (by decide) (List.mem_of_getElem? (i := 5) rfl) rfl rfl dX7_add_63 ?_
    refine V_iload_n X 1 rfl dX7_add_66 ?_
    refine V_aload_n X 0 rfl dX7_add_67 ?_
    refine V_get (C := RX7) (T := TX7) (N := 8) (ci := 6) (v := .ref gt) X in_X7_add_X7 0 rfl rfl 2 (by decide) (List.mem_of_getElem? (i := 5) rfl) rfl rfl dX7_add_68 ?_
    refine V_iload_n X 1 rfl dX7_add_71 ?_
    refine V_callS (wr := [(g, .inr (6, [.ref gl, .ref gb, .ref gt, .ref so, .int s_, .int q_, .int oc, .int wh])), (gl, .inl (Y 0, 60, .inl (upd fl H.length x))), (gb, .inl (Y 0, 60, .inl (upd fb H.length y)))]) (st := [.int x, .ref gt]) X (c_X1_at l D Y gt x l_ 12 ft tx hl (by omega)) 2 gX7_add_X1_at rfl (by decide +kernel) ⟨rfl, rfl⟩ ⟨Nat.le_of_ble_eq_true rfl, Nat.le_of_ble_eq_true rfl⟩ [1] [0, 2, 3] rfl rfl rfl rfl (by decide) rfl rfl (Nat.le_of_ble_eq_true rfl) ⟨Nat.le_of_ble_eq_true rfl, Nat.le_of_ble_eq_true rfl⟩ dX7_add_72 (fun v_72 w_72 h_72 => ?_)
    obtain ⟨rfl, rfl⟩ := h_72
    refine V_to (pc' := 75) (ls' := [(0, .ref g), (1, .int x), (2, .int y)]) (st' := [.int (ft l_), .int x, .ref gt]) (ws' := [(g, .inr (6, [.ref gl, .ref gb, .ref gt, .ref so, .int s_, .int q_, .int oc, .int wh])), (gl, .inl (Y 0, 60, .inl (upd fl H.length x))), (gb, .inl (Y 0, 60, .inl (upd fb H.length y))), (gt, .inl (Y 0, 12, .inl ft))]) ?_ rfl rfl rfl rfl
    refine V_iconst (v := (1 : Int32)) X (by decide) dX7_add_75 ?_
    refine V_iaddZ X rfl (show (1 : Int32).toInt = 1 from by decide) (by omega) (by omega) dX7_add_76 (fun x_4 ex_4 tx_4 => ?_)
    have tx_4 : x_4.toInt = (((hCnt H l_ + 1) : Nat) : Int) := by omega
    refine V_callS (wr := [(g, .inr (6, [.ref gl, .ref gb, .ref gt, .ref so, .int s_, .int q_, .int oc, .int wh])), (gl, .inl (Y 0, 60, .inl (upd fl H.length x))), (gb, .inl (Y 0, 60, .inl (upd fb H.length y)))]) (st := []) X (c_X1_set l D Y gt x l_ x_4 12 ft tx hl (by omega)) 3 gX7_add_X1_set rfl (by decide +kernel) ⟨rfl, rfl⟩ ⟨Nat.le_of_ble_eq_true rfl, Nat.le_of_ble_eq_true rfl⟩ [3] [0, 1, 2] rfl rfl rfl rfl (by decide) rfl rfl (Nat.le_of_ble_eq_true rfl) ⟨Nat.le_of_ble_eq_true rfl, Nat.le_of_ble_eq_true rfl⟩ dX7_add_77 (fun v_77 w_77 h_77 => ?_)
    obtain ⟨rfl, rfl⟩ := h_77
    refine V_to (pc' := 80) (ls' := [(0, .ref g), (1, .int x), (2, .int y)]) (st' := []) (ws' := [(g, .inr (6, [.ref gl, .ref gb, .ref gt, .ref so, .int s_, .int q_, .int oc, .int wh])), (gl, .inl (Y 0, 60, .inl (upd fl H.length x))), (gb, .inl (Y 0, 60, .inl (upd fb H.length y))), (gt, .inl (Y 0, 12, .inl (upd ft l_ x_4)))]) ?_ rfl rfl rfl rfl
    refine V_aload_n X 0 rfl dX7_add_80 ?_
    refine V_dup X rfl dX7_add_81 ?_
    refine V_get (C := RX7) (T := TX7) (N := 8) (ci := 6) (v := .int s_) X in_X7_add_X7 0 rfl rfl 4 (by decide) (List.mem_of_getElem? (i := 2) rfl) rfl rfl dX7_add_82 ?_
    refine V_iconst (v := (1 : Int32)) X (by decide) dX7_add_85 ?_
    refine V_iaddZ X ts_ (show (1 : Int32).toInt = 1 from by decide) (by omega) (by omega) dX7_add_86 (fun x_6 ex_6 tx_6 => ?_)
    have tx_6 : x_6.toInt = (((H.length + 1) : Nat) : Int) := by omega
    refine V_put (C := RX7) (T := TX7) (N := 8) (ci := 6) (v := .int x_6) (ty := tyX7 4) (ws' := [(g, .inr (6, [.ref gl, .ref gb, .ref gt, .ref so, .int x_6, .int q_, .int oc, .int wh])), (gl, .inl (Y 0, 60, .inl (upd fl H.length x))), (gb, .inl (Y 0, 60, .inl (upd fb H.length y))), (gt, .inl (Y 0, 12, .inl (upd ft l_ x_4)))]) X in_X7_add_X7 0 rfl rfl 4 (by decide) (List.mem_of_getElem? (i := 2) rfl) rfl tyX7 tyX7_ok nmX7 rfl (tyX7_ok 4 (by decide)) rfl rfl (Nat.le_of_ble_eq_true rfl) rfl dX7_add_87 ?_
    exact V_vret X hr dX7_add_90 (⟨(upd fl H.length x), (upd fb H.length y), (upd ft l_ x_4), x_6, q_, rfl, rfl, SG_add hSG hl tx ty tx_4, (by omega), tq⟩)
  · refine V_aload_n X 0 rfl dX7_add_0 ?_
    refine V_get (C := RX7) (T := TX7) (N := 8) (ci := 6) (v := .int r_) X in_X7_add_X7 0 rfl rfl 5 (by decide) (List.mem_of_getElem? (i := 1) rfl) rfl rfl dX7_add_1 ?_
    refine V_aload_n X 0 rfl dX7_add_4 ?_
    refine V_get (C := RX7) (T := TX7) (N := 8) (ci := 6) (v := .int s_) X in_X7_add_X7 0 rfl rfl 4 (by decide) (List.mem_of_getElem? (i := 2) rfl) rfl rfl dX7_add_5 ?_
    refine V_icmp_ne X tr_ ts_ 38 dX7_add_8 (by decide) (fun c_8 => ?_) (fun c_8 => ?_)
    · exact V_to (K_38 r_ (by rw [hR_n (Or.inl (by omega))]; exact tr_)) rfl rfl rfl rfl
    · refine V_aload_n X 0 rfl dX7_add_11 ?_
      refine V_get (C := RX7) (T := TX7) (N := 8) (ci := 6) (v := .int s_) X in_X7_add_X7 0 rfl rfl 4 (by decide) (List.mem_of_getElem? (i := 2) rfl) rfl rfl dX7_add_12 ?_
      refine V_if_eq X ts_ 28 dX7_add_15 (by decide) (fun c_15 => ?_) (fun c_15 => ?_)
      · refine V_aload_n X 0 rfl dX7_add_28 ?_
        refine V_dup X rfl dX7_add_29 ?_
        refine V_get (C := RX7) (T := TX7) (N := 8) (ci := 6) (v := .int r_) X in_X7_add_X7 0 rfl rfl 5 (by decide) (List.mem_of_getElem? (i := 1) rfl) rfl rfl dX7_add_30 ?_
        refine V_iconst (v := (1 : Int32)) X (by decide) dX7_add_33 ?_
        refine V_iaddZ X tr_ (show (1 : Int32).toInt = 1 from by decide) (by omega) (by omega) dX7_add_34 (fun x_7 ex_7 tx_7 => ?_)
        have tx_7 : x_7.toInt = ((((hR H) + 1) : Nat) : Int) := by omega
        refine V_put (C := RX7) (T := TX7) (N := 8) (ci := 6) (v := .int x_7) (ty := tyX7 5) (ws' := [(g, .inr (6, [.ref gl, .ref gb, .ref gt, .ref so, .int s_, .int x_7, .int oc, .int wh])), (gl, .inl (Y 0, 60, .inl fl)), (gb, .inl (Y 0, 60, .inl fb)), (gt, .inl (Y 0, 12, .inl ft))]) X in_X7_add_X7 0 rfl rfl 5 (by decide) (List.mem_of_getElem? (i := 1) rfl) rfl tyX7 tyX7_ok nmX7 rfl (tyX7_ok 5 (by decide)) rfl rfl (Nat.le_of_ble_eq_true rfl) rfl dX7_add_35 ?_
        exact V_to (K_38 x_7 (by rw [hR_y (by omega) (Or.inl (by omega))]; omega)) rfl rfl rfl rfl
      · refine V_iload_n X 1 rfl dX7_add_18 ?_
        refine V_aload_n X 0 rfl dX7_add_19 ?_
        refine V_callV (C := RX7) (wr := [(gb, .inl (Y 0, 60, .inl fb)), (gt, .inl (Y 0, 12, .inl ft))]) (st := [.int x]) X (c_X7_last l D Y g gl gb gt so s_ r_ oc wh fl fb ft H hSG ts_ tr_ (by omega) (by omega)) 0 gX7_add_X7_last rfl (by decide +kernel) ⟨rfl, rfl⟩ ⟨Nat.le_of_ble_eq_true rfl, Nat.le_of_ble_eq_true rfl⟩ [0, 1] [2, 3] rfl rfl rfl rfl (by decide) (ci := 6) rfl rfl 0 rfl rfl rfl (Nat.le_of_ble_eq_true rfl) ⟨Nat.le_of_ble_eq_true rfl, Nat.le_of_ble_eq_true rfl⟩ dX7_add_20 (fun v_20 w_20 h_20 => ?_)
        obtain ⟨r_9, rfl, rfl, htr_10, hhe_11⟩ := h_20
        refine V_to (pc' := 23) (ls' := [(0, .ref g), (1, .int x), (2, .int y)]) (st' := [.int r_9, .int x]) (ws' := [(gb, .inl (Y 0, 60, .inl fb)), (gt, .inl (Y 0, 12, .inl ft)), (g, .inr (6, [.ref gl, .ref gb, .ref gt, .ref so, .int s_, .int r_, .int oc, .int wh])), (gl, .inl (Y 0, 60, .inl fl))]) ?_ rfl rfl rfl rfl
        refine V_iconst (v := (1 : Int32)) X (by decide) dX7_add_23 ?_
        refine V_iaddZ X htr_10 (show (1 : Int32).toInt = 1 from by decide) (by omega) (by omega) dX7_add_24 (fun x_12 ex_12 tx_12 => ?_)
        have tx_12 : x_12.toInt = (((hLast H + 1) : Nat) : Int) := by omega
        refine V_icmp_ne X tx tx_12 38 dX7_add_25 (by decide) (fun c_25 => ?_) (fun c_25 => ?_)
        · refine V_ws (ws' := [(g, .inr (6, [.ref gl, .ref gb, .ref gt, .ref so, .int s_, .int r_, .int oc, .int wh])), (gl, .inl (Y 0, 60, .inl fl)), (gb, .inl (Y 0, 60, .inl fb)), (gt, .inl (Y 0, 12, .inl ft))]) [2, 3, 0, 1] rfl rfl rfl ?_
          exact V_to (K_38 r_ (by rw [hR_n (Or.inr ⟨by omega, show l_ ≠ hLast H + 1 by omega⟩)]; exact tr_)) rfl rfl rfl rfl
        · refine V_aload_n X 0 rfl dX7_add_28 ?_
          refine V_dup X rfl dX7_add_29 ?_
          refine V_get (C := RX7) (T := TX7) (N := 8) (ci := 6) (v := .int r_) X in_X7_add_X7 2 rfl rfl 5 (by decide) (List.mem_of_getElem? (i := 1) rfl) rfl rfl dX7_add_30 ?_
          refine V_iconst (v := (1 : Int32)) X (by decide) dX7_add_33 ?_
          refine V_iaddZ X tr_ (show (1 : Int32).toInt = 1 from by decide) (by omega) (by omega) dX7_add_34 (fun x_13 ex_13 tx_13 => ?_)
          have tx_13 : x_13.toInt = ((((hR H) + 1) : Nat) : Int) := by omega
          refine V_put (C := RX7) (T := TX7) (N := 8) (ci := 6) (v := .int x_13) (ty := tyX7 5) (ws' := [(gb, .inl (Y 0, 60, .inl fb)), (gt, .inl (Y 0, 12, .inl ft)), (g, .inr (6, [.ref gl, .ref gb, .ref gt, .ref so, .int s_, .int x_13, .int oc, .int wh])), (gl, .inl (Y 0, 60, .inl fl))]) X in_X7_add_X7 2 rfl rfl 5 (by decide) (List.mem_of_getElem? (i := 1) rfl) rfl tyX7 tyX7_ok nmX7 rfl (tyX7_ok 5 (by decide)) rfl rfl (Nat.le_of_ble_eq_true rfl) rfl dX7_add_35 ?_
          refine V_ws (ws' := [(g, .inr (6, [.ref gl, .ref gb, .ref gt, .ref so, .int s_, .int x_13, .int oc, .int wh])), (gl, .inl (Y 0, 60, .inl fl)), (gb, .inl (Y 0, 60, .inl fb)), (gt, .inl (Y 0, 12, .inl ft))]) [2, 3, 0, 1] rfl rfl rfl ?_
          exact V_to (K_38 x_13 (by rw [hR_y (by omega) (Or.inr (show l_ = hLast H + 1 by omega))]; omega)) rfl rfl rfl rfl
