theorem k_X6_guest : zCal yX6_guest wsX6_guest cX6_guest 2 (some .int) 1 := ⟨⟨_, rfl⟩, by decide +kernel⟩
theorem in_X6_guest_X6 : ∀ w ∈ wsX60, w ∈ wsX6_guest := fun _ h => List.mem_cons_of_mem _ (List.mem_append_right _ h)
set_option maxHeartbeats 4000000 in
set_option maxRecDepth 100000 in
theorem c_X6_guest (l : Launch) (D : va_G) (y : Nat → ClassId) (b : Nat → Nat) (s : Nat → Int32) (q : mdQ) {st : Nat} (hst : q_states q = nI st) (h6 : st ≤ 6) (hp : PF s) (hz : ZR s) (x : Int32) : zDi l D y yX6_guest wsX6_guest ({ frames := 3, cells := 0, slots := 0, locals := 67 }) [.ref (b 0), .int (x)] (mdW y b s q) ((coR s x).1) (mdW y b (coR s x).2 (rcQ (qs_spare q s) st (coR s x).1)) := by
  refine zMi.mk (cc := cX6_guest) (maxL := 2) (lv := [(0, .ref (b 0)), (1, .int (x))]) (by decide) rfl (Nat.le_of_ble_eq_true rfl) rfl (fun X G hE => ?_)
  have hin := in_X6_guest_X6
  refine z_aload_n G dX6_guest_0 0 rfl ?_
  refine z_dVv (As := []) G _ (fun l => c_X6_hold l D y b s q) k_X6_hold gX6_guest_X6_hold 0 6 rfl rfl rfl dX6_guest_1 ⟨by decide, by decide⟩ ⟨rfl, rfl⟩ ⟨Nat.zero_le _, Nat.zero_le _⟩ rfl (Nat.le_of_ble_eq_true rfl) rfl ?_
  refine z_aload_n G dX6_guest_4 0 rfl ?_
  refine z_aload_n G dX6_guest_5 0 rfl ?_
  refine z_iload_n G dX6_guest_6 1 rfl ?_
  refine z_dVi (As := [_]) G _ _ (fun l => c_X6_comes l D y b s _ hp hz x) k_X6_comes gX6_guest_X6_comes 0 6 rfl rfl rfl dX6_guest_7 ⟨by decide, by decide⟩ ⟨rfl, rfl⟩ ⟨Nat.zero_le _, Nat.zero_le _⟩ rfl (Nat.le_of_ble_eq_true rfl) rfl ?_
  refine z_dVi (As := [_]) G _ _ (fun l => c_X6_recorded l D y b (coR s x).2 (qs_spare q s) (st := st) (show q_states (qs_spare q s) = nI st from hst) h6 _) k_X6_recorded gX6_guest_X6_recorded 0 6 rfl rfl rfl dX6_guest_10 ⟨by decide, by decide⟩ ⟨rfl, rfl⟩ ⟨Nat.zero_le _, Nat.zero_le _⟩ rfl (Nat.le_of_ble_eq_true rfl) rfl ?_
  exact hE _ _ _ _ dX6_guest_13 rfl ⟨rfl, rfl⟩

theorem k_X6_leave : zCal yX6_leave wsX6_leave cX6_leave 2 (some .int) 1 := ⟨⟨_, rfl⟩, by decide +kernel⟩
theorem in_X6_leave_X6 : ∀ w ∈ wsX60, w ∈ wsX6_leave := fun _ h => List.mem_cons_of_mem _ (List.mem_append_right _ h)
set_option maxHeartbeats 4000000 in
set_option maxRecDepth 100000 in
theorem c_X6_leave (l : Launch) (D : va_G) (y : Nat → ClassId) (b : Nat → Nat) (s : Nat → Int32) (q : mdQ) {st : Nat} (hst : q_states q = nI st) (h6 : st ≤ 6) (hp : PF s) (hz : ZR s) (hs : SN s) (x : Int32) : zDi l D y yX6_leave wsX6_leave ({ frames := 3, cells := 0, slots := 0, locals := 66 }) [.ref (b 0), .int (x)] (mdW y b s q) ((leR s x).1) (mdW y b (leR s x).2 (rcQ (qs_spare q s) st (leR s x).1)) := by
  refine zMi.mk (cc := cX6_leave) (maxL := 2) (lv := [(0, .ref (b 0)), (1, .int (x))]) (by decide) rfl (Nat.le_of_ble_eq_true rfl) rfl (fun X G hE => ?_)
  have hin := in_X6_leave_X6
  refine z_aload_n G dX6_leave_0 0 rfl ?_
  refine z_dVv (As := []) G _ (fun l => c_X6_hold l D y b s q) k_X6_hold gX6_leave_X6_hold 0 6 rfl rfl rfl dX6_leave_1 ⟨by decide, by decide⟩ ⟨rfl, rfl⟩ ⟨Nat.zero_le _, Nat.zero_le _⟩ rfl (Nat.le_of_ble_eq_true rfl) rfl ?_
  refine z_aload_n G dX6_leave_4 0 rfl ?_
  refine z_aload_n G dX6_leave_5 0 rfl ?_
  refine z_iload_n G dX6_leave_6 1 rfl ?_
  refine z_dVi (As := [_]) G _ _ (fun l => c_X6_leaves l D y b s _ hp hz hs x) k_X6_leaves gX6_leave_X6_leaves 0 6 rfl rfl rfl dX6_leave_7 ⟨by decide, by decide⟩ ⟨rfl, rfl⟩ ⟨Nat.zero_le _, Nat.zero_le _⟩ rfl (Nat.le_of_ble_eq_true rfl) rfl ?_
  refine z_dVi (As := [_]) G _ _ (fun l => c_X6_recorded l D y b (leR s x).2 (qs_spare q s) (st := st) (show q_states (qs_spare q s) = nI st from hst) h6 _) k_X6_recorded gX6_leave_X6_recorded 0 6 rfl rfl rfl dX6_leave_10 ⟨by decide, by decide⟩ ⟨rfl, rfl⟩ ⟨Nat.zero_le _, Nat.zero_le _⟩ rfl (Nat.le_of_ble_eq_true rfl) rfl ?_
  exact hE _ _ _ _ dX6_leave_13 rfl ⟨rfl, rfl⟩

theorem k_X6_word : zCal yX6_word wsX6_word cX6_word 2 (some .int) 1 := ⟨⟨_, rfl⟩, by decide +kernel⟩
theorem in_X6_word_X6 : ∀ w ∈ wsX60, w ∈ wsX6_word := fun _ h => List.mem_cons_of_mem _ (List.mem_append_right _ h)
set_option maxHeartbeats 4000000 in
set_option maxRecDepth 100000 in
theorem c_X6_word (l : Launch) (D : va_G) (y : Nat → ClassId) (b : Nat → Nat) (s : Nat → Int32) (q : mdQ) {st : Nat} (hst : q_states q = nI st) (h6 : st ≤ 6) (x : Int32) : zDi l D y yX6_word wsX6_word ({ frames := 3, cells := 0, slots := 0, locals := 65 }) [.ref (b 0), .int (x)] (mdW y b s q) ((woR s x).1) (mdW y b (woR s x).2 (rcQ (qs_spare q s) st (woR s x).1)) := by
  refine zMi.mk (cc := cX6_word) (maxL := 2) (lv := [(0, .ref (b 0)), (1, .int (x))]) (by decide) rfl (Nat.le_of_ble_eq_true rfl) rfl (fun X G hE => ?_)
  have hin := in_X6_word_X6
  refine z_aload_n G dX6_word_0 0 rfl ?_
  refine z_dVv (As := []) G _ (fun l => c_X6_hold l D y b s q) k_X6_hold gX6_word_X6_hold 0 6 rfl rfl rfl dX6_word_1 ⟨by decide, by decide⟩ ⟨rfl, rfl⟩ ⟨Nat.zero_le _, Nat.zero_le _⟩ rfl (Nat.le_of_ble_eq_true rfl) rfl ?_
  refine z_aload_n G dX6_word_4 0 rfl ?_
  refine z_aload_n G dX6_word_5 0 rfl ?_
  refine z_iload_n G dX6_word_6 1 rfl ?_
  refine z_dVi (As := [_]) G _ _ (fun l => c_X6_says l D y b s _ x) k_X6_says gX6_word_X6_says 0 6 rfl rfl rfl dX6_word_7 ⟨by decide, by decide⟩ ⟨rfl, rfl⟩ ⟨Nat.zero_le _, Nat.zero_le _⟩ rfl (Nat.le_of_ble_eq_true rfl) rfl ?_
  refine z_dVi (As := [_]) G _ _ (fun l => c_X6_recorded l D y b (woR s x).2 (qs_spare q s) (st := st) (show q_states (qs_spare q s) = nI st from hst) h6 _) k_X6_recorded gX6_word_X6_recorded 0 6 rfl rfl rfl dX6_word_10 ⟨by decide, by decide⟩ ⟨rfl, rfl⟩ ⟨Nat.zero_le _, Nat.zero_le _⟩ rfl (Nat.le_of_ble_eq_true rfl) rfl ?_
  exact hE _ _ _ _ dX6_word_13 rfl ⟨rfl, rfl⟩

theorem k_X6_bow : zCal yX6_bow wsX6_bow cX6_bow 3 (some .int) 2 := ⟨⟨_, rfl⟩, by decide +kernel⟩
theorem in_X6_bow_X6 : ∀ w ∈ wsX60, w ∈ wsX6_bow := fun _ h => List.mem_cons_of_mem _ (List.mem_append_right _ h)
set_option maxHeartbeats 4000000 in
set_option maxRecDepth 100000 in
theorem c_X6_bow (l : Launch) (D : va_G) (y : Nat → ClassId) (b : Nat → Nat) (s : Nat → Int32) (q : mdQ) {st : Nat} (hst : q_states q = nI st) (h6 : st ≤ 6) (x : Int32) (z : Int32) : zDi l D y yX6_bow wsX6_bow ({ frames := 4, cells := 0, slots := 0, locals := 89 }) [.ref (b 0), .int (x), .int (z)] (mdW y b s q) ((boR s x z).1) (mdW y b (boR s x z).2 (rcQ (qs_spare q s) st (boR s x z).1)) := by
  refine zMi.mk (cc := cX6_bow) (maxL := 3) (lv := [(0, .ref (b 0)), (1, .int (x)), (2, .int (z))]) (by decide) rfl (Nat.le_of_ble_eq_true rfl) rfl (fun X G hE => ?_)
  have hin := in_X6_bow_X6
  refine z_aload_n G dX6_bow_0 0 rfl ?_
  refine z_dVv (As := []) G _ (fun l => c_X6_hold l D y b s q) k_X6_hold gX6_bow_X6_hold 0 6 rfl rfl rfl dX6_bow_1 ⟨by decide, by decide⟩ ⟨rfl, rfl⟩ ⟨Nat.zero_le _, Nat.zero_le _⟩ rfl (Nat.le_of_ble_eq_true rfl) rfl ?_
  refine z_aload_n G dX6_bow_4 0 rfl ?_
  refine z_aload_n G dX6_bow_5 0 rfl ?_
  refine z_iload_n G dX6_bow_6 1 rfl ?_
  refine z_iload_n G dX6_bow_7 2 rfl ?_
  refine z_dVi (As := [_, _]) G _ _ (fun l => c_X6_bows l D y b s _ x z) k_X6_bows gX6_bow_X6_bows 0 6 rfl rfl rfl dX6_bow_8 ⟨by decide, by decide⟩ ⟨rfl, rfl⟩ ⟨Nat.zero_le _, Nat.zero_le _⟩ rfl (Nat.le_of_ble_eq_true rfl) rfl ?_
  refine z_dVi (As := [_]) G _ _ (fun l => c_X6_recorded l D y b (boR s x z).2 (qs_spare q s) (st := st) (show q_states (qs_spare q s) = nI st from hst) h6 _) k_X6_recorded gX6_bow_X6_recorded 0 6 rfl rfl rfl dX6_bow_11 ⟨by decide, by decide⟩ ⟨rfl, rfl⟩ ⟨Nat.zero_le _, Nat.zero_le _⟩ rfl (Nat.le_of_ble_eq_true rfl) rfl ?_
  exact hE _ _ _ _ dX6_bow_14 rfl ⟨rfl, rfl⟩

theorem k_X6_offer : zCal yX6_offer wsX6_offer cX6_offer 3 (some .int) 2 := ⟨⟨_, rfl⟩, by decide +kernel⟩
theorem in_X6_offer_X6 : ∀ w ∈ wsX60, w ∈ wsX6_offer := fun _ h => List.mem_cons_of_mem _ (List.mem_append_right _ h)
set_option maxHeartbeats 4000000 in
set_option maxRecDepth 100000 in
theorem c_X6_offer (l : Launch) (D : va_G) (y : Nat → ClassId) (b : Nat → Nat) (s : Nat → Int32) (q : mdQ) {st : Nat} (hst : q_states q = nI st) (h6 : st ≤ 6) (hp : PF s) {c : Nat} (hc : s 0 = nI c) (hcm : c < 2 ^ 31) (x : Int32) (z : Int32) : zDi l D y yX6_offer wsX6_offer ({ frames := 4, cells := 0, slots := 0, locals := 93 }) [.ref (b 0), .int (x), .int (z)] (mdW y b s q) ((ofR s x z c).1) (mdW y b (ofR s x z c).2 (rcQ (qs_spare q s) st (ofR s x z c).1)) := by
  refine zMi.mk (cc := cX6_offer) (maxL := 3) (lv := [(0, .ref (b 0)), (1, .int (x)), (2, .int (z))]) (by decide) rfl (Nat.le_of_ble_eq_true rfl) rfl (fun X G hE => ?_)
  have hin := in_X6_offer_X6
  refine z_aload_n G dX6_offer_0 0 rfl ?_
  refine z_dVv (As := []) G _ (fun l => c_X6_hold l D y b s q) k_X6_hold gX6_offer_X6_hold 0 6 rfl rfl rfl dX6_offer_1 ⟨by decide, by decide⟩ ⟨rfl, rfl⟩ ⟨Nat.zero_le _, Nat.zero_le _⟩ rfl (Nat.le_of_ble_eq_true rfl) rfl ?_
  refine z_aload_n G dX6_offer_4 0 rfl ?_
  refine z_aload_n G dX6_offer_5 0 rfl ?_
  refine z_iload_n G dX6_offer_6 1 rfl ?_
  refine z_iload_n G dX6_offer_7 2 rfl ?_
  refine z_dVi (As := [_, _]) G _ _ (fun l => c_X6_offers l D y b s _ hp x z hc hcm) k_X6_offers gX6_offer_X6_offers 0 6 rfl rfl rfl dX6_offer_8 ⟨by decide, by decide⟩ ⟨rfl, rfl⟩ ⟨Nat.zero_le _, Nat.zero_le _⟩ rfl (Nat.le_of_ble_eq_true rfl) rfl ?_
  refine z_dVi (As := [_]) G _ _ (fun l => c_X6_recorded l D y b (ofR s x z c).2 (qs_spare q s) (st := st) (show q_states (qs_spare q s) = nI st from hst) h6 _) k_X6_recorded gX6_offer_X6_recorded 0 6 rfl rfl rfl dX6_offer_11 ⟨by decide, by decide⟩ ⟨rfl, rfl⟩ ⟨Nat.zero_le _, Nat.zero_le _⟩ rfl (Nat.le_of_ble_eq_true rfl) rfl ?_
  exact hE _ _ _ _ dX6_offer_14 rfl ⟨rfl, rfl⟩

theorem k_X6_breathe : zCal yX6_breathe wsX6_breathe cX6_breathe 2 (some .int) 1 := ⟨⟨_, rfl⟩, by decide +kernel⟩
theorem in_X6_breathe_X6 : ∀ w ∈ wsX60, w ∈ wsX6_breathe := fun _ h => List.mem_cons_of_mem _ (List.mem_append_right _ h)
set_option maxHeartbeats 4000000 in
set_option maxRecDepth 100000 in
theorem c_X6_breathe (l : Launch) (D : va_G) (y : Nat → ClassId) (b : Nat → Nat) (s : Nat → Int32) (q : mdQ) {st : Nat} (hst : q_states q = nI st) (h6 : st ≤ 6) (hp : PF s) (x : Int32) : zDi l D y yX6_breathe wsX6_breathe ({ frames := 3, cells := 0, slots := 0, locals := 66 }) [.ref (b 0), .int (x)] (mdW y b s q) ((beR s x).1) (mdW y b (beR s x).2 (rcQ (qs_spare q s) st (beR s x).1)) := by
  refine zMi.mk (cc := cX6_breathe) (maxL := 2) (lv := [(0, .ref (b 0)), (1, .int (x))]) (by decide) rfl (Nat.le_of_ble_eq_true rfl) rfl (fun X G hE => ?_)
  have hin := in_X6_breathe_X6
  refine z_aload_n G dX6_breathe_0 0 rfl ?_
  refine z_dVv (As := []) G _ (fun l => c_X6_hold l D y b s q) k_X6_hold gX6_breathe_X6_hold 0 6 rfl rfl rfl dX6_breathe_1 ⟨by decide, by decide⟩ ⟨rfl, rfl⟩ ⟨Nat.zero_le _, Nat.zero_le _⟩ rfl (Nat.le_of_ble_eq_true rfl) rfl ?_
  refine z_aload_n G dX6_breathe_4 0 rfl ?_
  refine z_aload_n G dX6_breathe_5 0 rfl ?_
  refine z_iload_n G dX6_breathe_6 1 rfl ?_
  refine z_dVi (As := [_]) G _ _ (fun l => c_X6_breathes l D y b s _ hp x) k_X6_breathes gX6_breathe_X6_breathes 0 6 rfl rfl rfl dX6_breathe_7 ⟨by decide, by decide⟩ ⟨rfl, rfl⟩ ⟨Nat.zero_le _, Nat.zero_le _⟩ rfl (Nat.le_of_ble_eq_true rfl) rfl ?_
  refine z_dVi (As := [_]) G _ _ (fun l => c_X6_recorded l D y b (beR s x).2 (qs_spare q s) (st := st) (show q_states (qs_spare q s) = nI st from hst) h6 _) k_X6_recorded gX6_breathe_X6_recorded 0 6 rfl rfl rfl dX6_breathe_10 ⟨by decide, by decide⟩ ⟨rfl, rfl⟩ ⟨Nat.zero_le _, Nat.zero_le _⟩ rfl (Nat.le_of_ble_eq_true rfl) rfl ?_
  exact hE _ _ _ _ dX6_breathe_13 rfl ⟨rfl, rfl⟩

theorem k_X6_round : zCal yX6_round wsX6_round cX6_round 1 (some .int) 0 := ⟨⟨_, rfl⟩, by decide +kernel⟩
theorem in_X6_round_X6 : ∀ w ∈ wsX60, w ∈ wsX6_round := fun _ h => List.mem_cons_of_mem _ (List.mem_append_right _ h)
set_option maxHeartbeats 4000000 in
set_option maxRecDepth 100000 in
theorem c_X6_round (l : Launch) (D : va_G) (y : Nat → ClassId) (b : Nat → Nat) (s : Nat → Int32) (q : mdQ) {st : Nat} (hst : q_states q = nI st) (h6 : st ≤ 6) (hp : PF s) (hu : SU s) (hj : SJ s) {c : Nat} (hc : s 0 = nI c) (hcm : c < 2 ^ 31) (hob : OB (cpH s c (ng s)).1) : zDi l D y yX6_round wsX6_round ({ frames := 7, cells := 0, slots := 0, locals := 158 }) [.ref (b 0)] (mdW y b s q) ((roR s c).1) (mdW y b (roR s c).2 (rcQ (roQ s c (qs_spare q s)) st (roR s c).1)) := by
  refine zMi.mk (cc := cX6_round) (maxL := 1) (lv := [(0, .ref (b 0))]) (by decide) rfl (Nat.le_of_ble_eq_true rfl) rfl (fun X G hE => ?_)
  have hin := in_X6_round_X6
  refine z_aload_n G dX6_round_0 0 rfl ?_
  refine z_dVv (As := []) G _ (fun l => c_X6_hold l D y b s q) k_X6_hold gX6_round_X6_hold 0 6 rfl rfl rfl dX6_round_1 ⟨by decide, by decide⟩ ⟨rfl, rfl⟩ ⟨Nat.zero_le _, Nat.zero_le _⟩ rfl (Nat.le_of_ble_eq_true rfl) rfl ?_
  refine z_aload_n G dX6_round_4 0 rfl ?_
  refine z_aload_n G dX6_round_5 0 rfl ?_
  refine z_dVi (As := []) G _ _ (fun l => c_X6_rounds l D y b s _ hp hu hj hc hcm hob) k_X6_rounds gX6_round_X6_rounds 0 6 rfl rfl rfl dX6_round_6 ⟨by decide, by decide⟩ ⟨rfl, rfl⟩ ⟨Nat.zero_le _, Nat.zero_le _⟩ rfl (Nat.le_of_ble_eq_true rfl) rfl ?_
  refine z_dVi (As := [_]) G _ _ (fun l => c_X6_recorded l D y b (roR s c).2 (roQ s c (qs_spare q s)) (st := st) ((roQ_st _ _ _).trans hst) h6 _) k_X6_recorded gX6_round_X6_recorded 0 6 rfl rfl rfl dX6_round_9 ⟨by decide, by decide⟩ ⟨rfl, rfl⟩ ⟨Nat.zero_le _, Nat.zero_le _⟩ rfl (Nat.le_of_ble_eq_true rfl) rfl ?_
  exact hE _ _ _ _ dX6_round_12 rfl ⟨rfl, rfl⟩

theorem k_X6_seatAnew : zCal yX6_seatAnew wsX6_seatAnew cX6_seatAnew 1 (some .int) 0 := ⟨⟨_, rfl⟩, by decide +kernel⟩
theorem in_X6_seatAnew_X6 : ∀ w ∈ wsX60, w ∈ wsX6_seatAnew := fun _ h => List.mem_cons_of_mem _ (List.mem_append_right _ h)
set_option maxHeartbeats 4000000 in
set_option maxRecDepth 100000 in
theorem c_X6_seatAnew (l : Launch) (D : va_G) (y : Nat → ClassId) (b : Nat → Nat) (s : Nat → Int32) (q : mdQ) {st : Nat} (hst : q_states q = nI st) (h6 : st ≤ 6) (hb : OB s) : zDi l D y yX6_seatAnew wsX6_seatAnew ({ frames := 5, cells := 0, slots := 0, locals := 113 }) [.ref (b 0)] (mdW y b s q) (nI (cnt (stCP s) 9)) (mdW y b (stF s 9) (rcQ (qs_ranks (qs_spare q s) (rkV (q_ranks q) s 9)) st (nI (cnt (stCP s) 9)))) := by
  refine zMi.mk (cc := cX6_seatAnew) (maxL := 1) (lv := [(0, .ref (b 0))]) (by decide) rfl (Nat.le_of_ble_eq_true rfl) rfl (fun X G hE => ?_)
  have hin := in_X6_seatAnew_X6
  refine z_aload_n G dX6_seatAnew_0 0 rfl ?_
  refine z_dVv (As := []) G _ (fun l => c_X6_hold l D y b s q) k_X6_hold gX6_seatAnew_X6_hold 0 6 rfl rfl rfl dX6_seatAnew_1 ⟨by decide, by decide⟩ ⟨rfl, rfl⟩ ⟨Nat.zero_le _, Nat.zero_le _⟩ rfl (Nat.le_of_ble_eq_true rfl) rfl ?_
  refine z_aload_n G dX6_seatAnew_4 0 rfl ?_
  refine z_aload_n G dX6_seatAnew_5 0 rfl ?_
  refine z_dVi (As := []) G _ _ (fun l => c_X6_seats l D y b s _ hb) k_X6_seats gX6_seatAnew_X6_seats 0 6 rfl rfl rfl dX6_seatAnew_6 ⟨by decide, by decide⟩ ⟨rfl, rfl⟩ ⟨Nat.zero_le _, Nat.zero_le _⟩ rfl (Nat.le_of_ble_eq_true rfl) rfl ?_
  refine z_dVi (As := [_]) G _ _ (fun l => c_X6_recorded l D y b (stF s 9) (qs_ranks (qs_spare q s) (rkV (q_ranks q) s 9)) (st := st) (show q_states (qs_ranks (qs_spare q s) (rkV (q_ranks q) s 9)) = nI st from hst) h6 _) k_X6_recorded gX6_seatAnew_X6_recorded 0 6 rfl rfl rfl dX6_seatAnew_9 ⟨by decide, by decide⟩ ⟨rfl, rfl⟩ ⟨Nat.zero_le _, Nat.zero_le _⟩ rfl (Nat.le_of_ble_eq_true rfl) rfl ?_
  exact hE _ _ _ _ dX6_seatAnew_12 rfl ⟨rfl, rfl⟩

theorem k_X6_set : zCal yX6_set wsX6_set cX6_set 5 (some .int) 2 := ⟨⟨_, rfl⟩, by decide +kernel⟩
theorem in_X6_set_X6 : ∀ w ∈ wsX60, w ∈ wsX6_set := fun _ h => List.mem_cons_of_mem _ (List.mem_append_right _ h)
set_option maxHeartbeats 4000000 in
set_option maxRecDepth 100000 in
theorem c_X6_set (l : Launch) (D : va_G) (y : Nat → ClassId) (b : Nat → Nat) (s : Nat → Int32) (q : mdQ) {st : Nat} (hst : q_states q = nI st) (h6 : st ≤ 6) (x v : Int32) : zDi l D y yX6_set wsX6_set ({ frames := 1, cells := 0, slots := 0, locals := 22 }) [.ref (b 0), .int (x), .int (v)] (mdW y b s q) ((seR s x v).1) (mdW y b (seR s x v).2 (seQ s q st x v)) := by
  refine zMi.mk (cc := cX6_set) (maxL := 5) (lv := [(0, .ref (b 0)), (1, .int (x)), (2, .int (v))]) (by decide) rfl (Nat.le_of_ble_eq_true rfl) rfl (fun X G hE => ?_)
  have hin := in_X6_set_X6
  rcases x_sw 3 (by decide) x with hsw | ⟨k, hk, rfl⟩
  · have no := seB_out (v := v) hsw
    refine z_iload_n G dX6_set_0 1 rfl ?_
    refine z_if_eqF G dX6_set_1 9 (by decide) (fun e => x_out (n := 3) (k := 0) hsw (by decide) (by decide) e) ?_
    refine z_iload_n G dX6_set_4 1 rfl ?_
    refine z_iconst (v := nI 3) G dX6_set_5 rfl ?_
    refine z_icmp_neT G dX6_set_6 19 (by decide) (x_out (n := 3) (k := 3) hsw (by decide) (by decide)) ?_
    refine z_iload_n G dX6_set_19 1 rfl ?_
    refine z_iconst (v := nI 1) G dX6_set_20 rfl ?_
    refine z_icmp_neT G dX6_set_21 34 (by decide) (x_out (n := 3) (k := 1) hsw (by decide) (by decide)) ?_
    refine z_iload_n G dX6_set_34 1 rfl ?_
    refine z_iconst (v := nI 2) G dX6_set_35 rfl ?_
    refine z_icmp_neT G dX6_set_36 53 (by decide) (x_out (n := 3) (k := 2) hsw (by decide) (by decide)) ?_
    refine z_iconst (v := nI 0) G dX6_set_53 rfl ?_
    refine z_istore_nA G dX6_set_54 rfl (by decide) rfl ?_
    refine z_iload_n G dX6_set_55 3 rfl ?_
    refine z_if_neF G dX6_set_56 62 (by decide) (by decide) ?_
    refine z_bipush (v := (-2)) G dX6_set_59 rfl ?_
    exact hE _ _ _ _ dX6_set_61 rfl (by rw [seR, seQ, no]; exact ⟨rfl, rfl⟩)
  · rcases (by omega : k = 0 ∨ k = 1 ∨ k = 2 ∨ k = 3) with rfl | rfl | rfl | rfl
    · refine z_iload_n G dX6_set_0 1 rfl ?_
      refine z_if_eqT G dX6_set_1 9 (by decide) rfl ?_
      refine z_iload_n G dX6_set_9 2 rfl ?_
      refine z_iconst (v := nI 1) G dX6_set_10 rfl ?_
      refine z_bipush (v := nI 9) G dX6_set_11 rfl ?_
      refine z_pSi (As := [_, _, _]) G _ _ _ (fun l => c_X6_in l D y v (nI 1) (nI 9)) k_X6_in gX6_set_X6_in dX6_set_13 ⟨by decide, by decide⟩ ⟨rfl, rfl⟩ ⟨Nat.zero_le _, Nat.zero_le _⟩ rfl (Nat.le_of_ble_eq_true rfl) rfl (List.Perm.refl _) (List.Perm.refl _) ?_
      refine z_goto (tgt := 54) G dX6_set_16 (by decide) ?_
      refine z_istore_nA G dX6_set_54 rfl (by decide) rfl ?_
      refine z_iload_n G dX6_set_55 3 rfl ?_
      refine z_if_ne G dX6_set_56 62 (by decide) (fun c56 => ?_) (fun c56 => ?_)
      · refine z_aload_n G dX6_set_62 0 rfl ?_
        have e : seB (nI 0) v = true := (show seB (nI 0) v = inB v (nI 1) (nI 9) from rfl).trans (bI_n c56)
        refine z_dVv (As := []) G _ (fun l => c_X6_hold l D y b s q) k_X6_hold gX6_set_X6_hold 0 6 rfl rfl rfl dX6_set_63 ⟨by decide, by decide⟩ ⟨rfl, rfl⟩ ⟨Nat.zero_le _, Nat.zero_le _⟩ rfl (Nat.le_of_ble_eq_true rfl) rfl ?_
        refine z_aload_n G dX6_set_66 0 rfl ?_
        refine mg_s G hin (List.mem_of_getElem? (i := 1) rfl) dX6_set_67 ?_
        refine z_iload_n G dX6_set_70 1 rfl ?_
        refine ml_s G (by omega) dX6_set_71 ?_
        refine z_istoreA G dX6_set_72 (by decide) rfl ?_
        refine z_aload_n G dX6_set_74 0 rfl ?_
        refine mg_s G hin (List.mem_of_getElem? (i := 1) rfl) dX6_set_75 ?_
        refine z_iload_n G dX6_set_78 1 rfl ?_
        refine z_iload_n G dX6_set_79 2 rfl ?_
        refine ms_s G (by omega) dX6_set_80 ?_
        refine z_aload_n G dX6_set_81 0 rfl ?_
        refine z_iload G dX6_set_82 4 rfl ?_
        refine z_dVi (As := [_]) G _ _ (fun l => c_X6_recorded l D y b (upd s 0 v) (qs_spare q s) (st := st) (show q_states (qs_spare q s) = nI st from hst) h6 _) k_X6_recorded gX6_set_X6_recorded 0 6 rfl rfl rfl dX6_set_84 ⟨by decide, by decide⟩ ⟨rfl, rfl⟩ ⟨Nat.zero_le _, Nat.zero_le _⟩ rfl (Nat.le_of_ble_eq_true rfl) rfl ?_
        exact hE _ _ _ _ dX6_set_87 rfl (by rw [seR, seQ, e]; exact ⟨rfl, rfl⟩)
      · refine z_bipush (v := (-2)) G dX6_set_59 rfl ?_
        exact hE _ _ _ _ dX6_set_61 rfl (by have e : seB (nI 0) v = false := (show seB (nI 0) v = inB v (nI 1) (nI 9) from rfl).trans (bI_0 c56); rw [seR, seQ, e]; exact ⟨rfl, rfl⟩)
    · refine z_iload_n G dX6_set_0 1 rfl ?_
      refine z_if_eqF G dX6_set_1 9 (by decide) (by decide) ?_
      refine z_iload_n G dX6_set_4 1 rfl ?_
      refine z_iconst (v := nI 3) G dX6_set_5 rfl ?_
      refine z_icmp_neT G dX6_set_6 19 (by decide) (by decide) ?_
      refine z_iload_n G dX6_set_19 1 rfl ?_
      refine z_iconst (v := nI 1) G dX6_set_20 rfl ?_
      refine z_icmp_neF G dX6_set_21 34 (by decide) rfl ?_
      refine z_iload_n G dX6_set_24 2 rfl ?_
      refine z_iconst (v := nI 1) G dX6_set_25 rfl ?_
      refine z_bipush (v := nI 20) G dX6_set_26 rfl ?_
      refine z_pSi (As := [_, _, _]) G _ _ _ (fun l => c_X6_in l D y v (nI 1) (nI 20)) k_X6_in gX6_set_X6_in dX6_set_28 ⟨by decide, by decide⟩ ⟨rfl, rfl⟩ ⟨Nat.zero_le _, Nat.zero_le _⟩ rfl (Nat.le_of_ble_eq_true rfl) rfl (List.Perm.refl _) (List.Perm.refl _) ?_
      refine z_goto (tgt := 54) G dX6_set_31 (by decide) ?_
      refine z_istore_nA G dX6_set_54 rfl (by decide) rfl ?_
      refine z_iload_n G dX6_set_55 3 rfl ?_
      refine z_if_ne G dX6_set_56 62 (by decide) (fun c56 => ?_) (fun c56 => ?_)
      · refine z_aload_n G dX6_set_62 0 rfl ?_
        have e : seB (nI 1) v = true := (show seB (nI 1) v = inB v (nI 1) (nI 20) from rfl).trans (bI_n c56)
        refine z_dVv (As := []) G _ (fun l => c_X6_hold l D y b s q) k_X6_hold gX6_set_X6_hold 0 6 rfl rfl rfl dX6_set_63 ⟨by decide, by decide⟩ ⟨rfl, rfl⟩ ⟨Nat.zero_le _, Nat.zero_le _⟩ rfl (Nat.le_of_ble_eq_true rfl) rfl ?_
        refine z_aload_n G dX6_set_66 0 rfl ?_
        refine mg_s G hin (List.mem_of_getElem? (i := 1) rfl) dX6_set_67 ?_
        refine z_iload_n G dX6_set_70 1 rfl ?_
        refine ml_s G (by omega) dX6_set_71 ?_
        refine z_istoreA G dX6_set_72 (by decide) rfl ?_
        refine z_aload_n G dX6_set_74 0 rfl ?_
        refine mg_s G hin (List.mem_of_getElem? (i := 1) rfl) dX6_set_75 ?_
        refine z_iload_n G dX6_set_78 1 rfl ?_
        refine z_iload_n G dX6_set_79 2 rfl ?_
        refine ms_s G (by omega) dX6_set_80 ?_
        refine z_aload_n G dX6_set_81 0 rfl ?_
        refine z_iload G dX6_set_82 4 rfl ?_
        refine z_dVi (As := [_]) G _ _ (fun l => c_X6_recorded l D y b (upd s 1 v) (qs_spare q s) (st := st) (show q_states (qs_spare q s) = nI st from hst) h6 _) k_X6_recorded gX6_set_X6_recorded 0 6 rfl rfl rfl dX6_set_84 ⟨by decide, by decide⟩ ⟨rfl, rfl⟩ ⟨Nat.zero_le _, Nat.zero_le _⟩ rfl (Nat.le_of_ble_eq_true rfl) rfl ?_
        exact hE _ _ _ _ dX6_set_87 rfl (by rw [seR, seQ, e]; exact ⟨rfl, rfl⟩)
      · refine z_bipush (v := (-2)) G dX6_set_59 rfl ?_
        exact hE _ _ _ _ dX6_set_61 rfl (by have e : seB (nI 1) v = false := (show seB (nI 1) v = inB v (nI 1) (nI 20) from rfl).trans (bI_0 c56); rw [seR, seQ, e]; exact ⟨rfl, rfl⟩)
    · refine z_iload_n G dX6_set_0 1 rfl ?_
      refine z_if_eqF G dX6_set_1 9 (by decide) (by decide) ?_
      refine z_iload_n G dX6_set_4 1 rfl ?_
      refine z_iconst (v := nI 3) G dX6_set_5 rfl ?_
      refine z_icmp_neT G dX6_set_6 19 (by decide) (by decide) ?_
      refine z_iload_n G dX6_set_19 1 rfl ?_
      refine z_iconst (v := nI 1) G dX6_set_20 rfl ?_
      refine z_icmp_neT G dX6_set_21 34 (by decide) (by decide) ?_
      refine z_iload_n G dX6_set_34 1 rfl ?_
      refine z_iconst (v := nI 2) G dX6_set_35 rfl ?_
      refine z_icmp_neF G dX6_set_36 53 (by decide) rfl ?_
      refine z_iload_n G dX6_set_39 2 rfl ?_
      refine z_iconst (v := nI 1) G dX6_set_40 rfl ?_
      refine z_bipush (v := nI 30) G dX6_set_41 rfl ?_
      refine z_pSi (As := [_, _, _]) G _ _ _ (fun l => c_X6_in l D y v (nI 1) (nI 30)) k_X6_in gX6_set_X6_in dX6_set_43 ⟨by decide, by decide⟩ ⟨rfl, rfl⟩ ⟨Nat.zero_le _, Nat.zero_le _⟩ rfl (Nat.le_of_ble_eq_true rfl) rfl (List.Perm.refl _) (List.Perm.refl _) ?_
      refine z_if_eq G dX6_set_46 53 (by decide) (fun c46 => ?_) (fun c46 => ?_)
      · refine z_iconst (v := nI 0) G dX6_set_53 rfl ?_
        refine z_istore_nA G dX6_set_54 rfl (by decide) rfl ?_
        refine z_iload_n G dX6_set_55 3 rfl ?_
        refine z_if_neF G dX6_set_56 62 (by decide) (by decide) ?_
        refine z_bipush (v := (-2)) G dX6_set_59 rfl ?_
        exact hE _ _ _ _ dX6_set_61 rfl (by have e : seB (nI 2) v = false := (show seB (nI 2) v = inB v (nI 1) (nI 30) from rfl).trans (bI_0 c46); rw [seR, seQ, e]; exact ⟨rfl, rfl⟩)
      · refine z_iconst (v := nI 1) G dX6_set_49 rfl ?_
        refine z_goto (tgt := 54) G dX6_set_50 (by decide) ?_
        refine z_istore_nA G dX6_set_54 rfl (by decide) rfl ?_
        refine z_iload_n G dX6_set_55 3 rfl ?_
        refine z_if_neT G dX6_set_56 62 (by decide) (by decide) ?_
        refine z_aload_n G dX6_set_62 0 rfl ?_
        have e : seB (nI 2) v = true := (show seB (nI 2) v = inB v (nI 1) (nI 30) from rfl).trans (bI_n c46)
        refine z_dVv (As := []) G _ (fun l => c_X6_hold l D y b s q) k_X6_hold gX6_set_X6_hold 0 6 rfl rfl rfl dX6_set_63 ⟨by decide, by decide⟩ ⟨rfl, rfl⟩ ⟨Nat.zero_le _, Nat.zero_le _⟩ rfl (Nat.le_of_ble_eq_true rfl) rfl ?_
        refine z_aload_n G dX6_set_66 0 rfl ?_
        refine mg_s G hin (List.mem_of_getElem? (i := 1) rfl) dX6_set_67 ?_
        refine z_iload_n G dX6_set_70 1 rfl ?_
        refine ml_s G (by omega) dX6_set_71 ?_
        refine z_istoreA G dX6_set_72 (by decide) rfl ?_
        refine z_aload_n G dX6_set_74 0 rfl ?_
        refine mg_s G hin (List.mem_of_getElem? (i := 1) rfl) dX6_set_75 ?_
        refine z_iload_n G dX6_set_78 1 rfl ?_
        refine z_iload_n G dX6_set_79 2 rfl ?_
        refine ms_s G (by omega) dX6_set_80 ?_
        refine z_aload_n G dX6_set_81 0 rfl ?_
        refine z_iload G dX6_set_82 4 rfl ?_
        refine z_dVi (As := [_]) G _ _ (fun l => c_X6_recorded l D y b (upd s 2 v) (qs_spare q s) (st := st) (show q_states (qs_spare q s) = nI st from hst) h6 _) k_X6_recorded gX6_set_X6_recorded 0 6 rfl rfl rfl dX6_set_84 ⟨by decide, by decide⟩ ⟨rfl, rfl⟩ ⟨Nat.zero_le _, Nat.zero_le _⟩ rfl (Nat.le_of_ble_eq_true rfl) rfl ?_
        exact hE _ _ _ _ dX6_set_87 rfl (by rw [seR, seQ, e]; exact ⟨rfl, rfl⟩)
    · refine z_iload_n G dX6_set_0 1 rfl ?_
      refine z_if_eqF G dX6_set_1 9 (by decide) (by decide) ?_
      refine z_iload_n G dX6_set_4 1 rfl ?_
      refine z_iconst (v := nI 3) G dX6_set_5 rfl ?_
      refine z_icmp_neF G dX6_set_6 19 (by decide) rfl ?_
      refine z_iload_n G dX6_set_9 2 rfl ?_
      refine z_iconst (v := nI 1) G dX6_set_10 rfl ?_
      refine z_bipush (v := nI 9) G dX6_set_11 rfl ?_
      refine z_pSi (As := [_, _, _]) G _ _ _ (fun l => c_X6_in l D y v (nI 1) (nI 9)) k_X6_in gX6_set_X6_in dX6_set_13 ⟨by decide, by decide⟩ ⟨rfl, rfl⟩ ⟨Nat.zero_le _, Nat.zero_le _⟩ rfl (Nat.le_of_ble_eq_true rfl) rfl (List.Perm.refl _) (List.Perm.refl _) ?_
      refine z_goto (tgt := 54) G dX6_set_16 (by decide) ?_
      refine z_istore_nA G dX6_set_54 rfl (by decide) rfl ?_
      refine z_iload_n G dX6_set_55 3 rfl ?_
      refine z_if_ne G dX6_set_56 62 (by decide) (fun c56 => ?_) (fun c56 => ?_)
      · refine z_aload_n G dX6_set_62 0 rfl ?_
        have e : seB (nI 3) v = true := (show seB (nI 3) v = inB v (nI 1) (nI 9) from rfl).trans (bI_n c56)
        refine z_dVv (As := []) G _ (fun l => c_X6_hold l D y b s q) k_X6_hold gX6_set_X6_hold 0 6 rfl rfl rfl dX6_set_63 ⟨by decide, by decide⟩ ⟨rfl, rfl⟩ ⟨Nat.zero_le _, Nat.zero_le _⟩ rfl (Nat.le_of_ble_eq_true rfl) rfl ?_
        refine z_aload_n G dX6_set_66 0 rfl ?_
        refine mg_s G hin (List.mem_of_getElem? (i := 1) rfl) dX6_set_67 ?_
        refine z_iload_n G dX6_set_70 1 rfl ?_
        refine ml_s G (by omega) dX6_set_71 ?_
        refine z_istoreA G dX6_set_72 (by decide) rfl ?_
        refine z_aload_n G dX6_set_74 0 rfl ?_
        refine mg_s G hin (List.mem_of_getElem? (i := 1) rfl) dX6_set_75 ?_
        refine z_iload_n G dX6_set_78 1 rfl ?_
        refine z_iload_n G dX6_set_79 2 rfl ?_
        refine ms_s G (by omega) dX6_set_80 ?_
        refine z_aload_n G dX6_set_81 0 rfl ?_
        refine z_iload G dX6_set_82 4 rfl ?_
        refine z_dVi (As := [_]) G _ _ (fun l => c_X6_recorded l D y b (upd s 3 v) (qs_spare q s) (st := st) (show q_states (qs_spare q s) = nI st from hst) h6 _) k_X6_recorded gX6_set_X6_recorded 0 6 rfl rfl rfl dX6_set_84 ⟨by decide, by decide⟩ ⟨rfl, rfl⟩ ⟨Nat.zero_le _, Nat.zero_le _⟩ rfl (Nat.le_of_ble_eq_true rfl) rfl ?_
        exact hE _ _ _ _ dX6_set_87 rfl (by rw [seR, seQ, e]; exact ⟨rfl, rfl⟩)
      · refine z_bipush (v := (-2)) G dX6_set_59 rfl ?_
        exact hE _ _ _ _ dX6_set_61 rfl (by have e : seB (nI 3) v = false := (show seB (nI 3) v = inB v (nI 1) (nI 9) from rfl).trans (bI_0 c56); rw [seR, seQ, e]; exact ⟨rfl, rfl⟩)

theorem k_X6_of : zCal yX6_of wsX6_of cX6_of 3 (some .int) 2 := ⟨⟨_, rfl⟩, by decide +kernel⟩
theorem in_X6_of_X6 : ∀ w ∈ wsX60, w ∈ wsX6_of := fun _ h => List.mem_cons_of_mem _ (List.mem_append_right _ h)
set_option maxHeartbeats 4000000 in
set_option maxRecDepth 100000 in
theorem c_X6_of (l : Launch) (D : va_G) (y : Nat → ClassId) (b : Nat → Nat) (s : Nat → Int32) (q : mdQ) (hb : OB s) (x z : Int32) : zDi l D y yX6_of wsX6_of ({ frames := 4, cells := 0, slots := 0, locals := 91 }) [.ref (b 0), .int (x), .int (z)] (mdW y b s q) (ofR1 s x z) (mdW y b s q) := by
  refine zMi.mk (cc := cX6_of) (maxL := 3) (lv := [(0, .ref (b 0)), (1, .int (x)), (2, .int (z))]) (by decide) rfl (Nat.le_of_ble_eq_true rfl) rfl (fun X G hE => ?_)
  have hin := in_X6_of_X6
  refine z_aload_n G dX6_of_0 0 rfl ?_
  refine z_iload_n G dX6_of_1 1 rfl ?_
  refine z_dVi (As := [_]) G _ _ (fun l => c_X6_isGuest l D y b s q x) k_X6_isGuest gX6_of_X6_isGuest 0 6 rfl rfl rfl dX6_of_2 ⟨by decide, by decide⟩ ⟨rfl, rfl⟩ ⟨Nat.zero_le _, Nat.zero_le _⟩ rfl (Nat.le_of_ble_eq_true rfl) rfl ?_
  refine z_if_ne G dX6_of_5 10 (by decide) (fun c5 => ?_) (fun c5 => ?_)
  · obtain ⟨g, hg, rfl, sg⟩ := hx_t (bI_n c5)
    refine z_iload_n G dX6_of_10 2 rfl ?_
    rcases x_sw 9 (by decide) (z) with hsw | ⟨k, hk, rfl⟩
    · refine z_tableOut G 109 dX6_of_11 hsw (by decide) ?_
      refine z_bipush (v := (-2)) G dX6_of_109 rfl ?_
      exact hE _ _ _ _ dX6_of_111 rfl ⟨(by rw [ofR1, hx_n hg, if_pos sg, nI_clamp (by omega), faR, if_neg (x_out hsw (k := 0) (by decide) (by decide)), if_neg (x_out hsw (k := 1) (by decide) (by decide)), if_neg (x_out hsw (k := 2) (by decide) (by decide)), if_neg (x_out hsw (k := 3) (by decide) (by decide)), if_neg (x_out hsw (k := 4) (by decide) (by decide)), if_neg (x_out hsw (k := 5) (by decide) (by decide)), if_neg (x_out hsw (k := 6) (by decide) (by decide)), if_neg (x_out hsw (k := 7) (by decide) (by decide)), if_neg (x_out hsw (k := 8) (by decide) (by decide)), if_neg (x_out hsw (k := 9) (by decide) (by decide))]), rfl⟩
    · rcases (by omega : k = 0 ∨ k = 1 ∨ k = 2 ∨ k = 3 ∨ k = 4 ∨ k = 5 ∨ k = 6 ∨ k = 7 ∨ k = 8 ∨ k = 9) with rfl | rfl | rfl | rfl | rfl | rfl | rfl | rfl | rfl | rfl
      · refine z_tableIn G 64 dX6_of_11 (by decide) (by decide) rfl (by decide) ?_
        refine z_aload_n G dX6_of_64 0 rfl ?_
        refine mg_s G hin (List.mem_of_getElem? (i := 1) rfl) dX6_of_65 ?_
        refine z_iload_n G dX6_of_68 1 rfl ?_
        refine z_pSi (As := [_]) G _ _ _ (fun l => c_X6_g l D y (g)) k_X6_g gX6_of_X6_g dX6_of_69 ⟨by decide, by decide⟩ ⟨rfl, rfl⟩ ⟨Nat.zero_le _, Nat.zero_le _⟩ rfl (Nat.le_of_ble_eq_true rfl) rfl (List.Perm.refl _) (List.Perm.refl _) ?_
        refine z_iconst (v := nI 1) G dX6_of_72 rfl ?_
        refine z_iaddN G dX6_of_73 (14 + 17 * g) (by omega) ?_
        refine z_iload_n G dX6_of_74 2 rfl ?_
        refine z_iaddN G dX6_of_75 (14 + 17 * g) (by omega) ?_
        refine ml_s G (by omega) dX6_of_76 ?_
        exact hE _ _ _ _ dX6_of_77 rfl ⟨(by rw [ofR1, hx_n hg, if_pos sg, nI_clamp (by omega), faR, if_pos rfl]), rfl⟩
      · refine z_tableIn G 64 dX6_of_11 (by decide) (by decide) rfl (by decide) ?_
        refine z_aload_n G dX6_of_64 0 rfl ?_
        refine mg_s G hin (List.mem_of_getElem? (i := 1) rfl) dX6_of_65 ?_
        refine z_iload_n G dX6_of_68 1 rfl ?_
        refine z_pSi (As := [_]) G _ _ _ (fun l => c_X6_g l D y (g)) k_X6_g gX6_of_X6_g dX6_of_69 ⟨by decide, by decide⟩ ⟨rfl, rfl⟩ ⟨Nat.zero_le _, Nat.zero_le _⟩ rfl (Nat.le_of_ble_eq_true rfl) rfl (List.Perm.refl _) (List.Perm.refl _) ?_
        refine z_iconst (v := nI 1) G dX6_of_72 rfl ?_
        refine z_iaddN G dX6_of_73 (14 + 17 * g) (by omega) ?_
        refine z_iload_n G dX6_of_74 2 rfl ?_
        refine z_iaddN G dX6_of_75 (15 + 17 * g) (by omega) ?_
        refine ml_s G (by omega) dX6_of_76 ?_
        exact hE _ _ _ _ dX6_of_77 rfl ⟨(by rw [ofR1, hx_n hg, if_pos sg, nI_clamp (by omega), faR, if_neg (show ¬ nI 1 = nI 0 by decide), if_pos rfl]), rfl⟩
      · refine z_tableIn G 64 dX6_of_11 (by decide) (by decide) rfl (by decide) ?_
        refine z_aload_n G dX6_of_64 0 rfl ?_
        refine mg_s G hin (List.mem_of_getElem? (i := 1) rfl) dX6_of_65 ?_
        refine z_iload_n G dX6_of_68 1 rfl ?_
        refine z_pSi (As := [_]) G _ _ _ (fun l => c_X6_g l D y (g)) k_X6_g gX6_of_X6_g dX6_of_69 ⟨by decide, by decide⟩ ⟨rfl, rfl⟩ ⟨Nat.zero_le _, Nat.zero_le _⟩ rfl (Nat.le_of_ble_eq_true rfl) rfl (List.Perm.refl _) (List.Perm.refl _) ?_
        refine z_iconst (v := nI 1) G dX6_of_72 rfl ?_
        refine z_iaddN G dX6_of_73 (14 + 17 * g) (by omega) ?_
        refine z_iload_n G dX6_of_74 2 rfl ?_
        refine z_iaddN G dX6_of_75 (16 + 17 * g) (by omega) ?_
        refine ml_s G (by omega) dX6_of_76 ?_
        exact hE _ _ _ _ dX6_of_77 rfl ⟨(by rw [ofR1, hx_n hg, if_pos sg, nI_clamp (by omega), faR, if_neg (show ¬ nI 2 = nI 0 by decide), if_neg (show ¬ nI 2 = nI 1 by decide), if_pos rfl]), rfl⟩
      · refine z_tableIn G 64 dX6_of_11 (by decide) (by decide) rfl (by decide) ?_
        refine z_aload_n G dX6_of_64 0 rfl ?_
        refine mg_s G hin (List.mem_of_getElem? (i := 1) rfl) dX6_of_65 ?_
        refine z_iload_n G dX6_of_68 1 rfl ?_
        refine z_pSi (As := [_]) G _ _ _ (fun l => c_X6_g l D y (g)) k_X6_g gX6_of_X6_g dX6_of_69 ⟨by decide, by decide⟩ ⟨rfl, rfl⟩ ⟨Nat.zero_le _, Nat.zero_le _⟩ rfl (Nat.le_of_ble_eq_true rfl) rfl (List.Perm.refl _) (List.Perm.refl _) ?_
        refine z_iconst (v := nI 1) G dX6_of_72 rfl ?_
        refine z_iaddN G dX6_of_73 (14 + 17 * g) (by omega) ?_
        refine z_iload_n G dX6_of_74 2 rfl ?_
        refine z_iaddN G dX6_of_75 (17 + 17 * g) (by omega) ?_
        refine ml_s G (by omega) dX6_of_76 ?_
        exact hE _ _ _ _ dX6_of_77 rfl ⟨(by rw [ofR1, hx_n hg, if_pos sg, nI_clamp (by omega), faR, if_neg (show ¬ nI 3 = nI 0 by decide), if_neg (show ¬ nI 3 = nI 1 by decide), if_neg (show ¬ nI 3 = nI 2 by decide), if_pos rfl]), rfl⟩
      · refine z_tableIn G 64 dX6_of_11 (by decide) (by decide) rfl (by decide) ?_
        refine z_aload_n G dX6_of_64 0 rfl ?_
        refine mg_s G hin (List.mem_of_getElem? (i := 1) rfl) dX6_of_65 ?_
        refine z_iload_n G dX6_of_68 1 rfl ?_
        refine z_pSi (As := [_]) G _ _ _ (fun l => c_X6_g l D y (g)) k_X6_g gX6_of_X6_g dX6_of_69 ⟨by decide, by decide⟩ ⟨rfl, rfl⟩ ⟨Nat.zero_le _, Nat.zero_le _⟩ rfl (Nat.le_of_ble_eq_true rfl) rfl (List.Perm.refl _) (List.Perm.refl _) ?_
        refine z_iconst (v := nI 1) G dX6_of_72 rfl ?_
        refine z_iaddN G dX6_of_73 (14 + 17 * g) (by omega) ?_
        refine z_iload_n G dX6_of_74 2 rfl ?_
        refine z_iaddN G dX6_of_75 (18 + 17 * g) (by omega) ?_
        refine ml_s G (by omega) dX6_of_76 ?_
        exact hE _ _ _ _ dX6_of_77 rfl ⟨(by rw [ofR1, hx_n hg, if_pos sg, nI_clamp (by omega), faR, if_neg (show ¬ nI 4 = nI 0 by decide), if_neg (show ¬ nI 4 = nI 1 by decide), if_neg (show ¬ nI 4 = nI 2 by decide), if_neg (show ¬ nI 4 = nI 3 by decide), if_pos rfl]), rfl⟩
      · refine z_tableIn G 64 dX6_of_11 (by decide) (by decide) rfl (by decide) ?_
        refine z_aload_n G dX6_of_64 0 rfl ?_
        refine mg_s G hin (List.mem_of_getElem? (i := 1) rfl) dX6_of_65 ?_
        refine z_iload_n G dX6_of_68 1 rfl ?_
        refine z_pSi (As := [_]) G _ _ _ (fun l => c_X6_g l D y (g)) k_X6_g gX6_of_X6_g dX6_of_69 ⟨by decide, by decide⟩ ⟨rfl, rfl⟩ ⟨Nat.zero_le _, Nat.zero_le _⟩ rfl (Nat.le_of_ble_eq_true rfl) rfl (List.Perm.refl _) (List.Perm.refl _) ?_
        refine z_iconst (v := nI 1) G dX6_of_72 rfl ?_
        refine z_iaddN G dX6_of_73 (14 + 17 * g) (by omega) ?_
        refine z_iload_n G dX6_of_74 2 rfl ?_
        refine z_iaddN G dX6_of_75 (19 + 17 * g) (by omega) ?_
        refine ml_s G (by omega) dX6_of_76 ?_
        exact hE _ _ _ _ dX6_of_77 rfl ⟨(by rw [ofR1, hx_n hg, if_pos sg, nI_clamp (by omega), faR, if_neg (show ¬ nI 5 = nI 0 by decide), if_neg (show ¬ nI 5 = nI 1 by decide), if_neg (show ¬ nI 5 = nI 2 by decide), if_neg (show ¬ nI 5 = nI 3 by decide), if_neg (show ¬ nI 5 = nI 4 by decide), if_pos rfl]), rfl⟩
      · refine z_tableIn G 78 dX6_of_11 (by decide) (by decide) rfl (by decide) ?_
        refine z_aload_n G dX6_of_78 0 rfl ?_
        refine z_iload_n G dX6_of_79 1 rfl ?_
        refine z_dVi (As := [_]) G _ _ (fun l => c_X6_owed l D y b s q hg) k_X6_owed gX6_of_X6_owed 0 6 rfl rfl rfl dX6_of_80 ⟨by decide, by decide⟩ ⟨rfl, rfl⟩ ⟨Nat.zero_le _, Nat.zero_le _⟩ rfl (Nat.le_of_ble_eq_true rfl) rfl ?_
        exact hE _ _ _ _ dX6_of_83 rfl ⟨(by rw [ofR1, hx_n hg, if_pos sg, nI_clamp (by omega), faR, if_neg (show ¬ nI 6 = nI 0 by decide), if_neg (show ¬ nI 6 = nI 1 by decide), if_neg (show ¬ nI 6 = nI 2 by decide), if_neg (show ¬ nI 6 = nI 3 by decide), if_neg (show ¬ nI 6 = nI 4 by decide), if_neg (show ¬ nI 6 = nI 5 by decide), if_pos rfl]), rfl⟩
      · refine z_tableIn G 84 dX6_of_11 (by decide) (by decide) rfl (by decide) ?_
        refine z_aload_n G dX6_of_84 0 rfl ?_
        refine z_iload_n G dX6_of_85 1 rfl ?_
        refine z_dVi (As := [_]) G _ _ (fun l => c_X6_owedTo l D y b s q hg) k_X6_owedTo gX6_of_X6_owedTo 0 6 rfl rfl rfl dX6_of_86 ⟨by decide, by decide⟩ ⟨rfl, rfl⟩ ⟨Nat.zero_le _, Nat.zero_le _⟩ rfl (Nat.le_of_ble_eq_true rfl) rfl ?_
        exact hE _ _ _ _ dX6_of_89 rfl ⟨(by rw [ofR1, hx_n hg, if_pos sg, nI_clamp (by omega), faR, if_neg (show ¬ nI 7 = nI 0 by decide), if_neg (show ¬ nI 7 = nI 1 by decide), if_neg (show ¬ nI 7 = nI 2 by decide), if_neg (show ¬ nI 7 = nI 3 by decide), if_neg (show ¬ nI 7 = nI 4 by decide), if_neg (show ¬ nI 7 = nI 5 by decide), if_neg (show ¬ nI 7 = nI 6 by decide), if_pos rfl]), rfl⟩
      · refine z_tableIn G 90 dX6_of_11 (by decide) (by decide) rfl (by decide) ?_
        refine z_aload_n G dX6_of_90 0 rfl ?_
        refine mg_s G hin (List.mem_of_getElem? (i := 1) rfl) dX6_of_91 ?_
        refine z_iload_n G dX6_of_94 1 rfl ?_
        refine z_pSi (As := [_]) G _ _ _ (fun l => c_X6_g l D y (g)) k_X6_g gX6_of_X6_g dX6_of_95 ⟨by decide, by decide⟩ ⟨rfl, rfl⟩ ⟨Nat.zero_le _, Nat.zero_le _⟩ rfl (Nat.le_of_ble_eq_true rfl) rfl (List.Perm.refl _) (List.Perm.refl _) ?_
        refine z_bipush (v := nI 7) G dX6_of_98 rfl ?_
        refine z_iaddN G dX6_of_100 (20 + 17 * g) (by omega) ?_
        refine ml_s G (by omega) dX6_of_101 ?_
        exact hE _ _ _ _ dX6_of_102 rfl ⟨(by rw [ofR1, hx_n hg, if_pos sg, nI_clamp (by omega), faR, if_neg (show ¬ nI 8 = nI 0 by decide), if_neg (show ¬ nI 8 = nI 1 by decide), if_neg (show ¬ nI 8 = nI 2 by decide), if_neg (show ¬ nI 8 = nI 3 by decide), if_neg (show ¬ nI 8 = nI 4 by decide), if_neg (show ¬ nI 8 = nI 5 by decide), if_neg (show ¬ nI 8 = nI 6 by decide), if_neg (show ¬ nI 8 = nI 7 by decide), if_pos rfl]), rfl⟩
      · refine z_tableIn G 103 dX6_of_11 (by decide) (by decide) rfl (by decide) ?_
        refine z_aload_n G dX6_of_103 0 rfl ?_
        refine z_iload_n G dX6_of_104 1 rfl ?_
        refine z_dVi (As := [_]) G _ _ (fun l => c_X6_rankOf l D y b s q hb hg) k_X6_rankOf gX6_of_X6_rankOf 0 6 rfl rfl rfl dX6_of_105 ⟨by decide, by decide⟩ ⟨rfl, rfl⟩ ⟨Nat.zero_le _, Nat.zero_le _⟩ rfl (Nat.le_of_ble_eq_true rfl) rfl ?_
        exact hE _ _ _ _ dX6_of_108 rfl ⟨(by rw [ofR1, hx_n hg, if_pos sg, nI_clamp (by omega), faR, if_neg (show ¬ nI 9 = nI 0 by decide), if_neg (show ¬ nI 9 = nI 1 by decide), if_neg (show ¬ nI 9 = nI 2 by decide), if_neg (show ¬ nI 9 = nI 3 by decide), if_neg (show ¬ nI 9 = nI 4 by decide), if_neg (show ¬ nI 9 = nI 5 by decide), if_neg (show ¬ nI 9 = nI 6 by decide), if_neg (show ¬ nI 9 = nI 7 by decide), if_neg (show ¬ nI 9 = nI 8 by decide), if_pos rfl]), rfl⟩
  · refine z_iconst (v := (-1)) G dX6_of_8 rfl ?_
    exact hE _ _ _ _ dX6_of_9 rfl ⟨(by rw [ofR1, bI_0 c5]; rfl), rfl⟩

theorem k_X6_owes : zCal yX6_owes wsX6_owes cX6_owes 4 (some .int) 2 := ⟨⟨_, rfl⟩, by decide +kernel⟩
theorem in_X6_owes_X6 : ∀ w ∈ wsX60, w ∈ wsX6_owes := fun _ h => List.mem_cons_of_mem _ (List.mem_append_right _ h)
set_option maxHeartbeats 4000000 in
set_option maxRecDepth 100000 in
theorem c_X6_owes (l : Launch) (D : va_G) (y : Nat → ClassId) (b : Nat → Nat) (s : Nat → Int32) (q : mdQ) (x z : Int32) : zDi l D y yX6_owes wsX6_owes ({ frames := 3, cells := 0, slots := 0, locals := 65 }) [.ref (b 0), .int (x), .int (z)] (mdW y b s q) (if pairE s x z < 0 then pairE s x z else s (21 + 17 * x.toNatClampNeg + z.toNatClampNeg)) (mdW y b s q) := by
  refine zMi.mk (cc := cX6_owes) (maxL := 4) (lv := [(0, .ref (b 0)), (1, .int (x)), (2, .int (z))]) (by decide) rfl (Nat.le_of_ble_eq_true rfl) rfl (fun X G hE => ?_)
  have hin := in_X6_owes_X6
  refine z_aload_n G dX6_owes_0 0 rfl ?_
  refine z_iload_n G dX6_owes_1 1 rfl ?_
  refine z_iload_n G dX6_owes_2 2 rfl ?_
  refine z_dVi (As := [_, _]) G _ _ (fun l => c_X6_pair l D y b s q x z) k_X6_pair gX6_owes_X6_pair 0 6 rfl rfl rfl dX6_owes_3 ⟨by decide, by decide⟩ ⟨rfl, rfl⟩ ⟨Nat.zero_le _, Nat.zero_le _⟩ rfl (Nat.le_of_ble_eq_true rfl) rfl ?_
  refine z_istore_nA G dX6_owes_6 rfl (by decide) rfl ?_
  refine z_iload_n G dX6_owes_7 3 rfl ?_
  refine z_if_ge G dX6_owes_8 15 (by decide) (fun c8 => ?_) (fun c8 => ?_)
  · obtain ⟨g, o, hg, ho, hgo, rfl, rfl, sg, so⟩ := pairE_ok c8
    refine z_aload_n G dX6_owes_15 0 rfl ?_
    refine mg_s G hin (List.mem_of_getElem? (i := 1) rfl) dX6_owes_16 ?_
    refine z_iload_n G dX6_owes_19 1 rfl ?_
    refine z_pSi (As := [_]) G _ _ _ (fun l => c_X6_g l D y (g)) k_X6_g gX6_owes_X6_g dX6_owes_20 ⟨by decide, by decide⟩ ⟨rfl, rfl⟩ ⟨Nat.zero_le _, Nat.zero_le _⟩ rfl (Nat.le_of_ble_eq_true rfl) rfl (List.Perm.refl _) (List.Perm.refl _) ?_
    refine z_bipush (v := nI 8) G dX6_owes_23 rfl ?_
    refine z_iaddN G dX6_owes_25 (21 + 17 * g) (by omega) ?_
    refine z_iload_n G dX6_owes_26 2 rfl ?_
    refine z_iaddN G dX6_owes_27 (21 + 17 * g + o) (by omega) ?_
    refine ml_s G (by omega) dX6_owes_28 ?_
    exact hE _ _ _ _ dX6_owes_29 rfl ⟨by first | rw [if_pos (Int32.not_le.mp c8)] | (rw [if_neg (Int32.not_lt.mpr c8), nI_clamp (by omega), nI_clamp (by omega)]), rfl⟩
  · refine z_iload_n G dX6_owes_11 3 rfl ?_
    refine z_goto (tgt := 29) G dX6_owes_12 (by decide) ?_
    exact hE _ _ _ _ dX6_owes_29 rfl ⟨by first | rw [if_pos (Int32.not_le.mp c8)] | (rw [if_neg (Int32.not_lt.mpr c8), nI_clamp (by omega), nI_clamp (by omega)]), rfl⟩

theorem k_X6_at : zCal yX6_at wsX6_at cX6_at 2 (some .int) 1 := ⟨⟨_, rfl⟩, by decide +kernel⟩
theorem in_X6_at_X6 : ∀ w ∈ wsX60, w ∈ wsX6_at := fun _ h => List.mem_cons_of_mem _ (List.mem_append_right _ h)
set_option maxHeartbeats 4000000 in
set_option maxRecDepth 100000 in
theorem c_X6_at (l : Launch) (D : va_G) (y : Nat → ClassId) (b : Nat → Nat) (s : Nat → Int32) (q : mdQ) (hs : SN s) (x : Int32) : zDi l D y yX6_at wsX6_at ({ frames := 3, cells := 0, slots := 0, locals := 66 }) [.ref (b 0), .int (x)] (mdW y b s q) (lst (stP s x) 9) (mdW y b s q) := by
  refine zMi.mk (cc := cX6_at) (maxL := 2) (lv := [(0, .ref (b 0)), (1, .int (x))]) (by decide) rfl (Nat.le_of_ble_eq_true rfl) rfl (fun X G hE => ?_)
  have hin := in_X6_at_X6
  refine z_iload_n G dX6_at_0 1 rfl ?_
  refine z_if_ge G dX6_at_1 8 (by decide) (fun c1 => ?_) (fun c1 => ?_)
  · refine z_aload_n G dX6_at_8 0 rfl ?_
    refine z_iload_n G dX6_at_9 1 rfl ?_
    refine z_dVi (As := [_]) G _ _ (fun l => c_X6_guestAt l D y b s q x) k_X6_guestAt gX6_at_X6_guestAt 0 6 rfl rfl rfl dX6_at_10 ⟨by decide, by decide⟩ ⟨rfl, rfl⟩ ⟨Nat.zero_le _, Nat.zero_le _⟩ rfl (Nat.le_of_ble_eq_true rfl) rfl ?_
    exact hE _ _ _ _ dX6_at_13 rfl ⟨by first | rfl | exact (st_lo hs (Int32.not_le.mp c1)).symm, rfl⟩
  · refine z_iconst (v := (-1)) G dX6_at_4 rfl ?_
    refine z_goto (tgt := 13) G dX6_at_5 (by decide) ?_
    exact hE _ _ _ _ dX6_at_13 rfl ⟨by first | rfl | exact (st_lo hs (Int32.not_le.mp c1)).symm, rfl⟩

theorem k_X6_ranked : zCal yX6_ranked wsX6_ranked cX6_ranked 2 (some .int) 1 := ⟨⟨_, rfl⟩, by decide +kernel⟩
theorem in_X6_ranked_X6 : ∀ w ∈ wsX60, w ∈ wsX6_ranked := fun _ h => List.mem_cons_of_mem _ (List.mem_append_right _ h)
set_option maxHeartbeats 4000000 in
set_option maxRecDepth 100000 in
theorem c_X6_ranked (l : Launch) (D : va_G) (y : Nat → ClassId) (b : Nat → Nat) (s : Nat → Int32) (q : mdQ) (hb : OB s) (x : Int32) : zDi l D y yX6_ranked wsX6_ranked ({ frames := 5, cells := 0, slots := 0, locals := 114 }) [.ref (b 0), .int (x)] (mdW y b s q) (lst (rnP s x) 9) (mdW y b s q) := by
  refine zMi.mk (cc := cX6_ranked) (maxL := 2) (lv := [(0, .ref (b 0)), (1, .int (x))]) (by decide) rfl (Nat.le_of_ble_eq_true rfl) rfl (fun X G hE => ?_)
  have hin := in_X6_ranked_X6
  refine z_iload_n G dX6_ranked_0 1 rfl ?_
  refine z_if_ge G dX6_ranked_1 8 (by decide) (fun c1 => ?_) (fun c1 => ?_)
  · refine z_aload_n G dX6_ranked_8 0 rfl ?_
    refine z_iload_n G dX6_ranked_9 1 rfl ?_
    refine z_dVi (As := [_]) G _ _ (fun l => c_X6_guestRanked l D y b s q hb x) k_X6_guestRanked gX6_ranked_X6_guestRanked 0 6 rfl rfl rfl dX6_ranked_10 ⟨by decide, by decide⟩ ⟨rfl, rfl⟩ ⟨Nat.zero_le _, Nat.zero_le _⟩ rfl (Nat.le_of_ble_eq_true rfl) rfl ?_
    exact hE _ _ _ _ dX6_ranked_13 rfl ⟨by first | rfl | exact (rn_lo s (Int32.not_le.mp c1)).symm, rfl⟩
  · refine z_iconst (v := (-1)) G dX6_ranked_4 rfl ?_
    refine z_goto (tgt := 13) G dX6_ranked_5 (by decide) ?_
    exact hE _ _ _ _ dX6_ranked_13 rfl ⟨by first | rfl | exact (rn_lo s (Int32.not_le.mp c1)).symm, rfl⟩

theorem k_X6_silent : zCal yX6_silent wsX6_silent cX6_silent 4 (some .int) 1 := ⟨⟨_, rfl⟩, by decide +kernel⟩
theorem in_X6_silent_X6 : ∀ w ∈ wsX60, w ∈ wsX6_silent := fun _ h => List.mem_cons_of_mem _ (List.mem_append_right _ h)
set_option maxHeartbeats 4000000 in
set_option maxRecDepth 100000 in
theorem c_X6_silent (l : Launch) (D : va_G) (y : Nat → ClassId) (b : Nat → Nat) (s : Nat → Int32) (q : mdQ) (x : Int32) : zDi l D y yX6_silent wsX6_silent ({ frames := 2, cells := 0, slots := 0, locals := 43 }) [.ref (b 0), .int (x)] (mdW y b s q) (if x < 0 then -2 else nI (cnt (slP s x) 9)) (mdW y b s q) := by
  refine zMi.mk (cc := cX6_silent) (maxL := 4) (lv := [(0, .ref (b 0)), (1, .int (x))]) (by decide) rfl (Nat.le_of_ble_eq_true rfl) rfl (fun X G hE => ?_)
  have hin := in_X6_silent_X6
  refine z_iload_n G dX6_silent_0 1 rfl ?_
  refine z_if_ge G dX6_silent_1 7 (by decide) (fun c1 => ?_) (fun c1 => ?_)
  · refine z_iconst (v := nI 0) G dX6_silent_7 rfl ?_
    refine z_istore_nA G dX6_silent_8 rfl (by decide) rfl ?_
    refine z_iconst (v := nI 0) G dX6_silent_9 rfl ?_
    refine z_istore_nA G dX6_silent_10 rfl (by decide) rfl ?_
    have lo : ∀ nj j : Nat, nj + j = 9 → zV D X (mdW y b s q) 0 0 11 [(0, .ref (b 0)), (1, .int (x)), (2, .int (nI (cnt (slP s x) (j)))), (3, .int (nI (j)))] [] := by
      intro nj
      induction nj with
      | zero =>
        intro j hj
        obtain rfl : j = 9 := by omega
        refine z_iload_n G dX6_silent_11 3 rfl ?_
        refine z_bipush (v := nI 9) G dX6_silent_12 rfl ?_
        refine z_icmp_geT G dX6_silent_14 54 (by decide) (nI_le (Nat.le_refl _) (by decide)) ?_
        refine z_iload_n G dX6_silent_54 2 rfl ?_
        exact hE _ _ _ _ dX6_silent_55 rfl ⟨(if_neg (Int32.not_lt.mpr c1)).symm, rfl⟩
      | succ nj ihj =>
        intro j hj
        have lj : j < 9 := by omega
        refine z_iload_n G dX6_silent_11 3 rfl ?_
        refine z_bipush (v := nI 9) G dX6_silent_12 rfl ?_
        refine z_icmp_geF G dX6_silent_14 54 (by decide) (nI_ge lj (by decide)) ?_
        refine z_iload_n G dX6_silent_17 2 rfl ?_
        refine z_aload_n G dX6_silent_18 0 rfl ?_
        refine z_iload_n G dX6_silent_19 3 rfl ?_
        refine z_dVi (As := [_]) G _ _ (fun l => c_X6_isGuest_n l D y b _ _ lj) k_X6_isGuest gX6_silent_X6_isGuest 0 6 rfl rfl rfl dX6_silent_20 ⟨by decide, by decide⟩ ⟨rfl, rfl⟩ ⟨Nat.zero_le _, Nat.zero_le _⟩ rfl (Nat.le_of_ble_eq_true rfl) rfl ?_
        refine z_if_eq G dX6_silent_23 45 (by decide) (fun c23 => ?_) (fun c23 => ?_)
        · refine z_iconst (v := nI 0) G dX6_silent_45 rfl ?_
          refine z_iaddN G dX6_silent_46 (cnt (slP s x) (j)) (by omega) ?_
          refine z_top (w := .int (nI (cnt (slP s x) (j + 1)))) (congrArg Value.int (congrArg nI (cnt_f (by rw [slP, bI_0 c23]; rfl)).symm)) ?_
          refine z_istore_n G dX6_silent_47 rfl (by decide) 2 rfl ?_
          refine z_iinc G dX6_silent_48 3 rfl (nI (j + 1)) (nI_inc _) (by decide) rfl ?_
          refine z_goto (tgt := 11) G dX6_silent_51 (by decide) ?_
          exact ihj (j + 1) (by omega)
        · refine z_aload_n G dX6_silent_26 0 rfl ?_
          refine mg_s G hin (List.mem_of_getElem? (i := 1) rfl) dX6_silent_27 ?_
          refine z_iload_n G dX6_silent_30 3 rfl ?_
          refine z_pSi (As := [_]) G _ _ _ (fun l => c_X6_g l D y (j)) k_X6_g gX6_silent_X6_g dX6_silent_31 ⟨by decide, by decide⟩ ⟨rfl, rfl⟩ ⟨Nat.zero_le _, Nat.zero_le _⟩ rfl (Nat.le_of_ble_eq_true rfl) rfl (List.Perm.refl _) (List.Perm.refl _) ?_
          refine z_iconst (v := nI 3) G dX6_silent_34 rfl ?_
          refine z_iaddN G dX6_silent_35 (16 + 17 * j) (by omega) ?_
          refine ml_s G (by omega) dX6_silent_36 ?_
          refine z_iload_n G dX6_silent_37 1 rfl ?_
          refine z_icmp_lt G dX6_silent_38 45 (by decide) (fun c38 => ?_) (fun c38 => ?_)
          · refine z_iconst (v := nI 0) G dX6_silent_45 rfl ?_
            refine z_iaddN G dX6_silent_46 (cnt (slP s x) (j)) (by omega) ?_
            refine z_top (w := .int (nI (cnt (slP s x) (j + 1)))) (congrArg Value.int (congrArg nI (cnt_f (by rw [slP, decide_eq_false (Int32.not_le.mpr c38)]; exact Bool.and_false _)).symm)) ?_
            refine z_istore_n G dX6_silent_47 rfl (by decide) 2 rfl ?_
            refine z_iinc G dX6_silent_48 3 rfl (nI (j + 1)) (nI_inc _) (by decide) rfl ?_
            refine z_goto (tgt := 11) G dX6_silent_51 (by decide) ?_
            exact ihj (j + 1) (by omega)
          · refine z_iconst (v := nI 1) G dX6_silent_41 rfl ?_
            refine z_goto (tgt := 46) G dX6_silent_42 (by decide) ?_
            refine z_iaddN G dX6_silent_46 (cnt (slP s x) (j) + 1) (by omega) ?_
            refine z_top (w := .int (nI (cnt (slP s x) (j + 1)))) (congrArg Value.int (congrArg nI (cnt_t (by rw [slP, bI_n c23, decide_eq_true (Int32.not_lt.mp c38)]; rfl)).symm)) ?_
            refine z_istore_n G dX6_silent_47 rfl (by decide) 2 rfl ?_
            refine z_iinc G dX6_silent_48 3 rfl (nI (j + 1)) (nI_inc _) (by decide) rfl ?_
            refine z_goto (tgt := 11) G dX6_silent_51 (by decide) ?_
            exact ihj (j + 1) (by omega)
    exact lo 9 0 rfl
  · refine z_bipush (v := (-2)) G dX6_silent_4 rfl ?_
    exact hE _ _ _ _ dX6_silent_6 rfl ⟨(if_pos (Int32.not_le.mp c1)).symm, rfl⟩

theorem k_X6_ofGuests : zCal yX6_ofGuests wsX6_ofGuests cX6_ofGuests 6 (some .int) 1 := ⟨⟨_, rfl⟩, by decide +kernel⟩
theorem in_X6_ofGuests_X6 : ∀ w ∈ wsX60, w ∈ wsX6_ofGuests := fun _ h => List.mem_cons_of_mem _ (List.mem_append_right _ h)
set_option maxHeartbeats 4000000 in
set_option maxRecDepth 100000 in
theorem c_X6_ofGuests (l : Launch) (D : va_G) (y : Nat → ClassId) (b : Nat → Nat) (s : Nat → Int32) (q : mdQ) (x : Int32) : zDi l D y yX6_ofGuests wsX6_ofGuests ({ frames := 3, cells := 0, slots := 0, locals := 64 }) [.ref (b 0), .int (x)] (mdW y b s q) (ogR s x) (mdW y b s q) := by
  refine zMi.mk (cc := cX6_ofGuests) (maxL := 6) (lv := [(0, .ref (b 0)), (1, .int (x))]) (by decide) rfl (Nat.le_of_ble_eq_true rfl) rfl (fun X G hE => ?_)
  have hin := in_X6_ofGuests_X6
  refine z_iconst (v := nI 0) G dX6_ofGuests_0 rfl ?_
  refine z_istore_nA G dX6_ofGuests_1 rfl (by decide) rfl ?_
  refine z_iconst (v := nI 0) G dX6_ofGuests_2 rfl ?_
  refine z_istore_nA G dX6_ofGuests_3 rfl (by decide) rfl ?_
  refine z_iconst (v := nI 0) G dX6_ofGuests_4 rfl ?_
  refine z_istoreA G dX6_ofGuests_5 (by decide) rfl ?_
  refine z_iconst (v := nI 0) G dX6_ofGuests_7 rfl ?_
  refine z_istoreA G dX6_ofGuests_8 (by decide) rfl ?_
  have lo : ∀ nj j : Nat, nj + j = 9 → zV D X (mdW y b s q) 0 0 10 [(0, .ref (b 0)), (1, .int (x)), (2, .int (sumI (owd s) (j))), (3, .int (orI (gs s) (j))), (4, .int (orI (psP s) (j))), (5, .int (nI (j)))] [] := by
    intro nj
    induction nj with
    | zero =>
      intro j hj
      obtain rfl : j = 9 := by omega
      refine z_iload G dX6_ofGuests_10 5 rfl ?_
      refine z_bipush (v := nI 9) G dX6_ofGuests_12 rfl ?_
      refine z_icmp_geT G dX6_ofGuests_14 83 (by decide) (nI_le (Nat.le_refl _) (by decide)) ?_
      refine z_iload_n G dX6_ofGuests_83 1 rfl ?_
      refine z_iconst (v := nI 4) G dX6_ofGuests_84 rfl ?_
      refine z_icmp_ne G dX6_ofGuests_85 92 (by decide) (fun c85 => ?_) (fun c85 => ?_)
      · refine z_iload_n G dX6_ofGuests_92 1 rfl ?_
        refine z_bipush (v := nI 11) G dX6_ofGuests_93 rfl ?_
        refine z_icmp_ne G dX6_ofGuests_95 102 (by decide) (fun c95 => ?_) (fun c95 => ?_)
        · refine z_iload G dX6_ofGuests_102 4 rfl ?_
          exact hE _ _ _ _ dX6_ofGuests_104 rfl ⟨by first | (rw [ogR, if_pos c85]; exact owa_eq s) | rw [ogR, if_neg c85, if_pos c95] | rw [ogR, if_neg c85, if_neg c95], rfl⟩
        · refine z_iload_n G dX6_ofGuests_98 3 rfl ?_
          refine z_goto (tgt := 104) G dX6_ofGuests_99 (by decide) ?_
          exact hE _ _ _ _ dX6_ofGuests_104 rfl ⟨by first | (rw [ogR, if_pos c85]; exact owa_eq s) | rw [ogR, if_neg c85, if_pos c95] | rw [ogR, if_neg c85, if_neg c95], rfl⟩
      · refine z_iload_n G dX6_ofGuests_88 2 rfl ?_
        refine z_goto (tgt := 104) G dX6_ofGuests_89 (by decide) ?_
        exact hE _ _ _ _ dX6_ofGuests_104 rfl ⟨by first | (rw [ogR, if_pos c85]; exact owa_eq s) | rw [ogR, if_neg c85, if_pos c95] | rw [ogR, if_neg c85, if_neg c95], rfl⟩
    | succ nj ihj =>
      intro j hj
      have lj : j < 9 := by omega
      refine z_iload G dX6_ofGuests_10 5 rfl ?_
      refine z_bipush (v := nI 9) G dX6_ofGuests_12 rfl ?_
      refine z_icmp_geF G dX6_ofGuests_14 83 (by decide) (nI_ge lj (by decide)) ?_
      refine z_iload_n G dX6_ofGuests_17 2 rfl ?_
      refine z_aload_n G dX6_ofGuests_18 0 rfl ?_
      refine z_iload G dX6_ofGuests_19 5 rfl ?_
      refine z_dVi (As := [_]) G _ _ (fun l => c_X6_owed l D y b s q lj) k_X6_owed gX6_ofGuests_X6_owed 0 6 rfl rfl rfl dX6_ofGuests_21 ⟨by decide, by decide⟩ ⟨rfl, rfl⟩ ⟨Nat.zero_le _, Nat.zero_le _⟩ rfl (Nat.le_of_ble_eq_true rfl) rfl ?_
      refine z_iadd G dX6_ofGuests_24 ?_
      refine z_istore_n G dX6_ofGuests_25 rfl (by decide) 2 rfl ?_
      refine z_iload_n G dX6_ofGuests_26 3 rfl ?_
      refine z_aload_n G dX6_ofGuests_27 0 rfl ?_
      refine z_iload G dX6_ofGuests_28 5 rfl ?_
      refine z_dVi (As := [_]) G _ _ (fun l => c_X6_isGuest_n l D y b _ _ lj) k_X6_isGuest gX6_ofGuests_X6_isGuest 0 6 rfl rfl rfl dX6_ofGuests_30 ⟨by decide, by decide⟩ ⟨rfl, rfl⟩ ⟨Nat.zero_le _, Nat.zero_le _⟩ rfl (Nat.le_of_ble_eq_true rfl) rfl ?_
      refine z_if_eq G dX6_ofGuests_33 43 (by decide) (fun c33 => ?_) (fun c33 => ?_)
      · refine z_iconst (v := nI 0) G dX6_ofGuests_43 rfl ?_
        refine z_ior G dX6_ofGuests_44 ?_
        refine z_top (w := .int (orI (gs s) (j + 1))) (congrArg Value.int ((or0 _).trans (orI_f (bI_0 c33)).symm)) ?_
        refine z_istore_n G dX6_ofGuests_45 rfl (by decide) 3 rfl ?_
        refine z_iload G dX6_ofGuests_46 4 rfl ?_
        refine z_aload_n G dX6_ofGuests_48 0 rfl ?_
        refine z_iload G dX6_ofGuests_49 5 rfl ?_
        refine z_dVi (As := [_]) G _ _ (fun l => c_X6_isGuest_n l D y b _ _ lj) k_X6_isGuest gX6_ofGuests_X6_isGuest 0 6 rfl rfl rfl dX6_ofGuests_51 ⟨by decide, by decide⟩ ⟨rfl, rfl⟩ ⟨Nat.zero_le _, Nat.zero_le _⟩ rfl (Nat.le_of_ble_eq_true rfl) rfl ?_
        refine z_if_eq G dX6_ofGuests_54 73 (by decide) (fun c54 => ?_) (fun c54 => ?_)
        · refine z_iconst (v := nI 0) G dX6_ofGuests_73 rfl ?_
          refine z_ior G dX6_ofGuests_74 ?_
          refine z_top (w := .int (orI (psP s) (j + 1))) (congrArg Value.int ((or0 _).trans (orI_f (by rw [psP, bI_0 c54]; rfl)).symm)) ?_
          refine z_istore G dX6_ofGuests_75 (by decide) 4 rfl ?_
          refine z_iinc G dX6_ofGuests_77 5 rfl (nI (j + 1)) (nI_inc _) (by decide) rfl ?_
          refine z_goto (tgt := 10) G dX6_ofGuests_80 (by decide) ?_
          exact ihj (j + 1) (by omega)
        · refine z_aload_n G dX6_ofGuests_57 0 rfl ?_
          refine z_iload G dX6_ofGuests_58 5 rfl ?_
          refine z_dVi (As := [_]) G _ _ (fun l => c_X6_reason l D y b s q lj) k_X6_reason gX6_ofGuests_X6_reason 0 6 rfl rfl rfl dX6_ofGuests_60 ⟨by decide, by decide⟩ ⟨rfl, rfl⟩ ⟨Nat.zero_le _, Nat.zero_le _⟩ rfl (Nat.le_of_ble_eq_true rfl) rfl ?_
          refine z_if_le G dX6_ofGuests_63 73 (by decide) (fun c63 => ?_) (fun c63 => ?_)
          · refine z_iconst (v := nI 0) G dX6_ofGuests_73 rfl ?_
            refine z_ior G dX6_ofGuests_74 ?_
            refine z_top (w := .int (orI (psP s) (j + 1))) (congrArg Value.int ((or0 _).trans (orI_f (by rw [psP, bI_n c54]; simp only [Bool.true_and]; exact decide_eq_false (fun z => Int32.not_lt.mpr c63 (rsn_pos.mpr z)))).symm)) ?_
            refine z_istore G dX6_ofGuests_75 (by decide) 4 rfl ?_
            refine z_iinc G dX6_ofGuests_77 5 rfl (nI (j + 1)) (nI_inc _) (by decide) rfl ?_
            refine z_goto (tgt := 10) G dX6_ofGuests_80 (by decide) ?_
            exact ihj (j + 1) (by omega)
          · refine z_iconst (v := nI 1) G dX6_ofGuests_66 rfl ?_
            refine z_iload G dX6_ofGuests_67 5 rfl ?_
            refine z_ishl G dX6_ofGuests_69 ?_
            refine z_goto (tgt := 74) G dX6_ofGuests_70 (by decide) ?_
            refine z_ior G dX6_ofGuests_74 ?_
            refine z_top (w := .int (orI (psP s) (j + 1))) (congrArg Value.int (orI_t (by rw [psP, bI_n c54]; simp only [Bool.true_and]; exact decide_eq_true (rsn_pos.mp (Int32.not_le.mp c63))))) ?_
            refine z_istore G dX6_ofGuests_75 (by decide) 4 rfl ?_
            refine z_iinc G dX6_ofGuests_77 5 rfl (nI (j + 1)) (nI_inc _) (by decide) rfl ?_
            refine z_goto (tgt := 10) G dX6_ofGuests_80 (by decide) ?_
            exact ihj (j + 1) (by omega)
      · refine z_iconst (v := nI 1) G dX6_ofGuests_36 rfl ?_
        refine z_iload G dX6_ofGuests_37 5 rfl ?_
        refine z_ishl G dX6_ofGuests_39 ?_
        refine z_goto (tgt := 44) G dX6_ofGuests_40 (by decide) ?_
        refine z_ior G dX6_ofGuests_44 ?_
        refine z_top (w := .int (orI (gs s) (j + 1))) (congrArg Value.int (orI_t (bI_n c33))) ?_
        refine z_istore_n G dX6_ofGuests_45 rfl (by decide) 3 rfl ?_
        refine z_iload G dX6_ofGuests_46 4 rfl ?_
        refine z_aload_n G dX6_ofGuests_48 0 rfl ?_
        refine z_iload G dX6_ofGuests_49 5 rfl ?_
        refine z_dVi (As := [_]) G _ _ (fun l => c_X6_isGuest_n l D y b _ _ lj) k_X6_isGuest gX6_ofGuests_X6_isGuest 0 6 rfl rfl rfl dX6_ofGuests_51 ⟨by decide, by decide⟩ ⟨rfl, rfl⟩ ⟨Nat.zero_le _, Nat.zero_le _⟩ rfl (Nat.le_of_ble_eq_true rfl) rfl ?_
        refine z_if_eq G dX6_ofGuests_54 73 (by decide) (fun c54 => ?_) (fun c54 => ?_)
        · refine z_iconst (v := nI 0) G dX6_ofGuests_73 rfl ?_
          refine z_ior G dX6_ofGuests_74 ?_
          refine z_top (w := .int (orI (psP s) (j + 1))) (congrArg Value.int ((or0 _).trans (orI_f (by rw [psP, bI_0 c54]; rfl)).symm)) ?_
          refine z_istore G dX6_ofGuests_75 (by decide) 4 rfl ?_
          refine z_iinc G dX6_ofGuests_77 5 rfl (nI (j + 1)) (nI_inc _) (by decide) rfl ?_
          refine z_goto (tgt := 10) G dX6_ofGuests_80 (by decide) ?_
          exact ihj (j + 1) (by omega)
        · refine z_aload_n G dX6_ofGuests_57 0 rfl ?_
          refine z_iload G dX6_ofGuests_58 5 rfl ?_
          refine z_dVi (As := [_]) G _ _ (fun l => c_X6_reason l D y b s q lj) k_X6_reason gX6_ofGuests_X6_reason 0 6 rfl rfl rfl dX6_ofGuests_60 ⟨by decide, by decide⟩ ⟨rfl, rfl⟩ ⟨Nat.zero_le _, Nat.zero_le _⟩ rfl (Nat.le_of_ble_eq_true rfl) rfl ?_
          refine z_if_le G dX6_ofGuests_63 73 (by decide) (fun c63 => ?_) (fun c63 => ?_)
          · refine z_iconst (v := nI 0) G dX6_ofGuests_73 rfl ?_
            refine z_ior G dX6_ofGuests_74 ?_
            refine z_top (w := .int (orI (psP s) (j + 1))) (congrArg Value.int ((or0 _).trans (orI_f (by rw [psP, bI_n c54]; simp only [Bool.true_and]; exact decide_eq_false (fun z => Int32.not_lt.mpr c63 (rsn_pos.mpr z)))).symm)) ?_
            refine z_istore G dX6_ofGuests_75 (by decide) 4 rfl ?_
            refine z_iinc G dX6_ofGuests_77 5 rfl (nI (j + 1)) (nI_inc _) (by decide) rfl ?_
            refine z_goto (tgt := 10) G dX6_ofGuests_80 (by decide) ?_
            exact ihj (j + 1) (by omega)
          · refine z_iconst (v := nI 1) G dX6_ofGuests_66 rfl ?_
            refine z_iload G dX6_ofGuests_67 5 rfl ?_
            refine z_ishl G dX6_ofGuests_69 ?_
            refine z_goto (tgt := 74) G dX6_ofGuests_70 (by decide) ?_
            refine z_ior G dX6_ofGuests_74 ?_
            refine z_top (w := .int (orI (psP s) (j + 1))) (congrArg Value.int (orI_t (by rw [psP, bI_n c54]; simp only [Bool.true_and]; exact decide_eq_true (rsn_pos.mp (Int32.not_le.mp c63))))) ?_
            refine z_istore G dX6_ofGuests_75 (by decide) 4 rfl ?_
            refine z_iinc G dX6_ofGuests_77 5 rfl (nI (j + 1)) (nI_inc _) (by decide) rfl ?_
            refine z_goto (tgt := 10) G dX6_ofGuests_80 (by decide) ?_
            exact ihj (j + 1) (by omega)
  exact lo 9 0 rfl

theorem k_X6_count : zCal yX6_count wsX6_count cX6_count 2 (some .int) 1 := ⟨⟨_, rfl⟩, by decide +kernel⟩
theorem in_X6_count_X6 : ∀ w ∈ wsX60, w ∈ wsX6_count := fun _ h => List.mem_cons_of_mem _ (List.mem_append_right _ h)
set_option maxHeartbeats 4000000 in
set_option maxRecDepth 100000 in
theorem c_X6_count (l : Launch) (D : va_G) (y : Nat → ClassId) (b : Nat → Nat) (s : Nat → Int32) (q : mdQ) (hp : PF s) (x : Int32) : zDi l D y yX6_count wsX6_count ({ frames := 4, cells := 0, slots := 0, locals := 89 }) [.ref (b 0), .int (x)] (mdW y b s q) (cnR s (q_length q) (q_states q) x) (mdW y b s q) := by
  refine zMi.mk (cc := cX6_count) (maxL := 2) (lv := [(0, .ref (b 0)), (1, .int (x))]) (by decide) rfl (Nat.le_of_ble_eq_true rfl) rfl (fun X G hE => ?_)
  have hin := in_X6_count_X6
  refine z_iload_n G dX6_count_0 1 rfl ?_
  rcases x_sw 18 (by decide) (x) with hsw | ⟨k, hk, rfl⟩
  · refine z_tableOut G 157 dX6_count_1 hsw (by decide) ?_
    refine z_bipush (v := (-2)) G dX6_count_157 rfl ?_
    exact hE _ _ _ _ dX6_count_159 rfl ⟨(by rw [cnR, if_neg (x_out (n := 18) (k := 17) hsw (by decide) (by decide)), if_neg (x_out (n := 18) (k := 18) hsw (by decide) (by decide))]; exact (coR1_out hsw).symm), rfl⟩
  · rcases (by omega : k = 0 ∨ k = 1 ∨ k = 2 ∨ k = 3 ∨ k = 4 ∨ k = 5 ∨ k = 6 ∨ k = 7 ∨ k = 8 ∨ k = 9 ∨ k = 10 ∨ k = 11 ∨ k = 12 ∨ k = 13 ∨ k = 14 ∨ k = 15 ∨ k = 16 ∨ k = 17 ∨ k = 18) with rfl | rfl | rfl | rfl | rfl | rfl | rfl | rfl | rfl | rfl | rfl | rfl | rfl | rfl | rfl | rfl | rfl | rfl | rfl
    · refine z_tableIn G 92 dX6_count_1 (by decide) (by decide) rfl (by decide) ?_
      refine z_aload_n G dX6_count_92 0 rfl ?_
      refine mg_s G hin (List.mem_of_getElem? (i := 1) rfl) dX6_count_93 ?_
      refine z_iconst (v := nI 4) G dX6_count_96 rfl ?_
      refine ml_s G (by omega) dX6_count_97 ?_
      exact hE _ _ _ _ dX6_count_98 rfl ⟨(by rw [cnR, if_neg (show ¬ nI 0 = nI 17 by decide), if_neg (show ¬ nI 0 = nI 18 by decide), coR1, if_pos rfl]), rfl⟩
    · refine z_tableIn G 99 dX6_count_1 (by decide) (by decide) rfl (by decide) ?_
      refine z_aload_n G dX6_count_99 0 rfl ?_
      refine z_dVi (As := []) G _ _ (fun l => c_X6_guests l D y b s q hp) k_X6_guests gX6_count_X6_guests 0 6 rfl rfl rfl dX6_count_100 ⟨by decide, by decide⟩ ⟨rfl, rfl⟩ ⟨Nat.zero_le _, Nat.zero_le _⟩ rfl (Nat.le_of_ble_eq_true rfl) rfl ?_
      exact hE _ _ _ _ dX6_count_103 rfl ⟨(by rw [cnR, if_neg (show ¬ nI 1 = nI 17 by decide), if_neg (show ¬ nI 1 = nI 18 by decide), coR1, if_neg (show ¬ nI 1 = nI 0 by decide), if_pos rfl]), rfl⟩
    · refine z_tableIn G 104 dX6_count_1 (by decide) (by decide) rfl (by decide) ?_
      refine z_aload_n G dX6_count_104 0 rfl ?_
      refine mg_s G hin (List.mem_of_getElem? (i := 1) rfl) dX6_count_105 ?_
      refine z_iconst (v := nI 5) G dX6_count_108 rfl ?_
      refine ml_s G (by omega) dX6_count_109 ?_
      exact hE _ _ _ _ dX6_count_110 rfl ⟨(by rw [cnR, if_neg (show ¬ nI 2 = nI 17 by decide), if_neg (show ¬ nI 2 = nI 18 by decide), coR1, if_neg (show ¬ nI 2 = nI 0 by decide), if_neg (show ¬ nI 2 = nI 1 by decide), if_pos rfl]), rfl⟩
    · refine z_tableIn G 111 dX6_count_1 (by decide) (by decide) rfl (by decide) ?_
      refine z_aload_n G dX6_count_111 0 rfl ?_
      refine mg_s G hin (List.mem_of_getElem? (i := 1) rfl) dX6_count_112 ?_
      refine z_bipush (v := nI 6) G dX6_count_115 rfl ?_
      refine ml_s G (by omega) dX6_count_117 ?_
      exact hE _ _ _ _ dX6_count_118 rfl ⟨(by rw [cnR, if_neg (show ¬ nI 3 = nI 17 by decide), if_neg (show ¬ nI 3 = nI 18 by decide), coR1, if_neg (show ¬ nI 3 = nI 0 by decide), if_neg (show ¬ nI 3 = nI 1 by decide), if_neg (show ¬ nI 3 = nI 2 by decide), if_pos rfl]), rfl⟩
    · refine z_tableIn G 119 dX6_count_1 (by decide) (by decide) rfl (by decide) ?_
      refine z_aload_n G dX6_count_119 0 rfl ?_
      refine z_iload_n G dX6_count_120 1 rfl ?_
      refine z_dVi (As := [_]) G _ _ (fun l => c_X6_ofGuests l D y b s q _) k_X6_ofGuests gX6_count_X6_ofGuests 0 6 rfl rfl rfl dX6_count_121 ⟨by decide, by decide⟩ ⟨rfl, rfl⟩ ⟨Nat.zero_le _, Nat.zero_le _⟩ rfl (Nat.le_of_ble_eq_true rfl) rfl ?_
      exact hE _ _ _ _ dX6_count_124 rfl ⟨(by rw [cnR, if_neg (show ¬ nI 4 = nI 17 by decide), if_neg (show ¬ nI 4 = nI 18 by decide), coR1, if_neg (show ¬ nI 4 = nI 0 by decide), if_neg (show ¬ nI 4 = nI 1 by decide), if_neg (show ¬ nI 4 = nI 2 by decide), if_neg (show ¬ nI 4 = nI 3 by decide), if_pos rfl, ogR, if_pos rfl]), rfl⟩
    · refine z_tableIn G 125 dX6_count_1 (by decide) (by decide) rfl (by decide) ?_
      refine z_aload_n G dX6_count_125 0 rfl ?_
      refine mg_s G hin (List.mem_of_getElem? (i := 1) rfl) dX6_count_126 ?_
      refine z_bipush (v := nI 7) G dX6_count_129 rfl ?_
      refine z_iload_n G dX6_count_131 1 rfl ?_
      refine z_iaddN G dX6_count_132 (12) (by omega) ?_
      refine z_iconst (v := nI 5) G dX6_count_133 rfl ?_
      refine z_isubN G dX6_count_134 (by omega) (7) (by omega) ?_
      refine ml_s G (by omega) dX6_count_135 ?_
      exact hE _ _ _ _ dX6_count_136 rfl ⟨(by rw [cnR, if_neg (show ¬ nI 5 = nI 17 by decide), if_neg (show ¬ nI 5 = nI 18 by decide), coR1, if_neg (show ¬ nI 5 = nI 0 by decide), if_neg (show ¬ nI 5 = nI 1 by decide), if_neg (show ¬ nI 5 = nI 2 by decide), if_neg (show ¬ nI 5 = nI 3 by decide), if_neg (show ¬ nI 5 = nI 4 by decide), if_pos rfl]), rfl⟩
    · refine z_tableIn G 125 dX6_count_1 (by decide) (by decide) rfl (by decide) ?_
      refine z_aload_n G dX6_count_125 0 rfl ?_
      refine mg_s G hin (List.mem_of_getElem? (i := 1) rfl) dX6_count_126 ?_
      refine z_bipush (v := nI 7) G dX6_count_129 rfl ?_
      refine z_iload_n G dX6_count_131 1 rfl ?_
      refine z_iaddN G dX6_count_132 (13) (by omega) ?_
      refine z_iconst (v := nI 5) G dX6_count_133 rfl ?_
      refine z_isubN G dX6_count_134 (by omega) (8) (by omega) ?_
      refine ml_s G (by omega) dX6_count_135 ?_
      exact hE _ _ _ _ dX6_count_136 rfl ⟨(by rw [cnR, if_neg (show ¬ nI 6 = nI 17 by decide), if_neg (show ¬ nI 6 = nI 18 by decide), coR1, if_neg (show ¬ nI 6 = nI 0 by decide), if_neg (show ¬ nI 6 = nI 1 by decide), if_neg (show ¬ nI 6 = nI 2 by decide), if_neg (show ¬ nI 6 = nI 3 by decide), if_neg (show ¬ nI 6 = nI 4 by decide), if_neg (show ¬ nI 6 = nI 5 by decide), if_pos rfl]), rfl⟩
    · refine z_tableIn G 125 dX6_count_1 (by decide) (by decide) rfl (by decide) ?_
      refine z_aload_n G dX6_count_125 0 rfl ?_
      refine mg_s G hin (List.mem_of_getElem? (i := 1) rfl) dX6_count_126 ?_
      refine z_bipush (v := nI 7) G dX6_count_129 rfl ?_
      refine z_iload_n G dX6_count_131 1 rfl ?_
      refine z_iaddN G dX6_count_132 (14) (by omega) ?_
      refine z_iconst (v := nI 5) G dX6_count_133 rfl ?_
      refine z_isubN G dX6_count_134 (by omega) (9) (by omega) ?_
      refine ml_s G (by omega) dX6_count_135 ?_
      exact hE _ _ _ _ dX6_count_136 rfl ⟨(by rw [cnR, if_neg (show ¬ nI 7 = nI 17 by decide), if_neg (show ¬ nI 7 = nI 18 by decide), coR1, if_neg (show ¬ nI 7 = nI 0 by decide), if_neg (show ¬ nI 7 = nI 1 by decide), if_neg (show ¬ nI 7 = nI 2 by decide), if_neg (show ¬ nI 7 = nI 3 by decide), if_neg (show ¬ nI 7 = nI 4 by decide), if_neg (show ¬ nI 7 = nI 5 by decide), if_neg (show ¬ nI 7 = nI 6 by decide), if_pos rfl]), rfl⟩
    · refine z_tableIn G 125 dX6_count_1 (by decide) (by decide) rfl (by decide) ?_
      refine z_aload_n G dX6_count_125 0 rfl ?_
      refine mg_s G hin (List.mem_of_getElem? (i := 1) rfl) dX6_count_126 ?_
      refine z_bipush (v := nI 7) G dX6_count_129 rfl ?_
      refine z_iload_n G dX6_count_131 1 rfl ?_
      refine z_iaddN G dX6_count_132 (15) (by omega) ?_
      refine z_iconst (v := nI 5) G dX6_count_133 rfl ?_
      refine z_isubN G dX6_count_134 (by omega) (10) (by omega) ?_
      refine ml_s G (by omega) dX6_count_135 ?_
      exact hE _ _ _ _ dX6_count_136 rfl ⟨(by rw [cnR, if_neg (show ¬ nI 8 = nI 17 by decide), if_neg (show ¬ nI 8 = nI 18 by decide), coR1, if_neg (show ¬ nI 8 = nI 0 by decide), if_neg (show ¬ nI 8 = nI 1 by decide), if_neg (show ¬ nI 8 = nI 2 by decide), if_neg (show ¬ nI 8 = nI 3 by decide), if_neg (show ¬ nI 8 = nI 4 by decide), if_neg (show ¬ nI 8 = nI 5 by decide), if_neg (show ¬ nI 8 = nI 6 by decide), if_neg (show ¬ nI 8 = nI 7 by decide), if_pos rfl]), rfl⟩
    · refine z_tableIn G 125 dX6_count_1 (by decide) (by decide) rfl (by decide) ?_
      refine z_aload_n G dX6_count_125 0 rfl ?_
      refine mg_s G hin (List.mem_of_getElem? (i := 1) rfl) dX6_count_126 ?_
      refine z_bipush (v := nI 7) G dX6_count_129 rfl ?_
      refine z_iload_n G dX6_count_131 1 rfl ?_
      refine z_iaddN G dX6_count_132 (16) (by omega) ?_
      refine z_iconst (v := nI 5) G dX6_count_133 rfl ?_
      refine z_isubN G dX6_count_134 (by omega) (11) (by omega) ?_
      refine ml_s G (by omega) dX6_count_135 ?_
      exact hE _ _ _ _ dX6_count_136 rfl ⟨(by rw [cnR, if_neg (show ¬ nI 9 = nI 17 by decide), if_neg (show ¬ nI 9 = nI 18 by decide), coR1, if_neg (show ¬ nI 9 = nI 0 by decide), if_neg (show ¬ nI 9 = nI 1 by decide), if_neg (show ¬ nI 9 = nI 2 by decide), if_neg (show ¬ nI 9 = nI 3 by decide), if_neg (show ¬ nI 9 = nI 4 by decide), if_neg (show ¬ nI 9 = nI 5 by decide), if_neg (show ¬ nI 9 = nI 6 by decide), if_neg (show ¬ nI 9 = nI 7 by decide), if_neg (show ¬ nI 9 = nI 8 by decide), if_pos rfl]), rfl⟩
    · refine z_tableIn G 125 dX6_count_1 (by decide) (by decide) rfl (by decide) ?_
      refine z_aload_n G dX6_count_125 0 rfl ?_
      refine mg_s G hin (List.mem_of_getElem? (i := 1) rfl) dX6_count_126 ?_
      refine z_bipush (v := nI 7) G dX6_count_129 rfl ?_
      refine z_iload_n G dX6_count_131 1 rfl ?_
      refine z_iaddN G dX6_count_132 (17) (by omega) ?_
      refine z_iconst (v := nI 5) G dX6_count_133 rfl ?_
      refine z_isubN G dX6_count_134 (by omega) (12) (by omega) ?_
      refine ml_s G (by omega) dX6_count_135 ?_
      exact hE _ _ _ _ dX6_count_136 rfl ⟨(by rw [cnR, if_neg (show ¬ nI 10 = nI 17 by decide), if_neg (show ¬ nI 10 = nI 18 by decide), coR1, if_neg (show ¬ nI 10 = nI 0 by decide), if_neg (show ¬ nI 10 = nI 1 by decide), if_neg (show ¬ nI 10 = nI 2 by decide), if_neg (show ¬ nI 10 = nI 3 by decide), if_neg (show ¬ nI 10 = nI 4 by decide), if_neg (show ¬ nI 10 = nI 5 by decide), if_neg (show ¬ nI 10 = nI 6 by decide), if_neg (show ¬ nI 10 = nI 7 by decide), if_neg (show ¬ nI 10 = nI 8 by decide), if_neg (show ¬ nI 10 = nI 9 by decide), if_pos rfl]), rfl⟩
    · refine z_tableIn G 119 dX6_count_1 (by decide) (by decide) rfl (by decide) ?_
      refine z_aload_n G dX6_count_119 0 rfl ?_
      refine z_iload_n G dX6_count_120 1 rfl ?_
      refine z_dVi (As := [_]) G _ _ (fun l => c_X6_ofGuests l D y b s q _) k_X6_ofGuests gX6_count_X6_ofGuests 0 6 rfl rfl rfl dX6_count_121 ⟨by decide, by decide⟩ ⟨rfl, rfl⟩ ⟨Nat.zero_le _, Nat.zero_le _⟩ rfl (Nat.le_of_ble_eq_true rfl) rfl ?_
      exact hE _ _ _ _ dX6_count_124 rfl ⟨(by rw [cnR, if_neg (show ¬ nI 11 = nI 17 by decide), if_neg (show ¬ nI 11 = nI 18 by decide), coR1, if_neg (show ¬ nI 11 = nI 0 by decide), if_neg (show ¬ nI 11 = nI 1 by decide), if_neg (show ¬ nI 11 = nI 2 by decide), if_neg (show ¬ nI 11 = nI 3 by decide), if_neg (show ¬ nI 11 = nI 4 by decide), if_neg (show ¬ nI 11 = nI 5 by decide), if_neg (show ¬ nI 11 = nI 6 by decide), if_neg (show ¬ nI 11 = nI 7 by decide), if_neg (show ¬ nI 11 = nI 8 by decide), if_neg (show ¬ nI 11 = nI 9 by decide), if_neg (show ¬ nI 11 = nI 10 by decide), if_pos rfl, ogR, if_neg (show ¬ nI 11 = nI 4 by decide), if_pos rfl]), rfl⟩
    · refine z_tableIn G 119 dX6_count_1 (by decide) (by decide) rfl (by decide) ?_
      refine z_aload_n G dX6_count_119 0 rfl ?_
      refine z_iload_n G dX6_count_120 1 rfl ?_
      refine z_dVi (As := [_]) G _ _ (fun l => c_X6_ofGuests l D y b s q _) k_X6_ofGuests gX6_count_X6_ofGuests 0 6 rfl rfl rfl dX6_count_121 ⟨by decide, by decide⟩ ⟨rfl, rfl⟩ ⟨Nat.zero_le _, Nat.zero_le _⟩ rfl (Nat.le_of_ble_eq_true rfl) rfl ?_
      exact hE _ _ _ _ dX6_count_124 rfl ⟨(by rw [cnR, if_neg (show ¬ nI 12 = nI 17 by decide), if_neg (show ¬ nI 12 = nI 18 by decide), coR1, if_neg (show ¬ nI 12 = nI 0 by decide), if_neg (show ¬ nI 12 = nI 1 by decide), if_neg (show ¬ nI 12 = nI 2 by decide), if_neg (show ¬ nI 12 = nI 3 by decide), if_neg (show ¬ nI 12 = nI 4 by decide), if_neg (show ¬ nI 12 = nI 5 by decide), if_neg (show ¬ nI 12 = nI 6 by decide), if_neg (show ¬ nI 12 = nI 7 by decide), if_neg (show ¬ nI 12 = nI 8 by decide), if_neg (show ¬ nI 12 = nI 9 by decide), if_neg (show ¬ nI 12 = nI 10 by decide), if_neg (show ¬ nI 12 = nI 11 by decide), if_pos rfl, ogR, if_neg (show ¬ nI 12 = nI 4 by decide), if_neg (show ¬ nI 12 = nI 11 by decide)]), rfl⟩
    · refine z_tableIn G 137 dX6_count_1 (by decide) (by decide) rfl (by decide) ?_
      refine z_aload_n G dX6_count_137 0 rfl ?_
      refine mg_s G hin (List.mem_of_getElem? (i := 1) rfl) dX6_count_138 ?_
      refine z_iload_n G dX6_count_141 1 rfl ?_
      refine z_bipush (v := nI 13) G dX6_count_142 rfl ?_
      refine z_isubN G dX6_count_144 (by omega) (0) (by omega) ?_
      refine ml_s G (by omega) dX6_count_145 ?_
      exact hE _ _ _ _ dX6_count_146 rfl ⟨(by rw [cnR, if_neg (show ¬ nI 13 = nI 17 by decide), if_neg (show ¬ nI 13 = nI 18 by decide), coR1_set (by decide) (by decide)]; exact (setR_in (k := 0) (by decide)).symm), rfl⟩
    · refine z_tableIn G 137 dX6_count_1 (by decide) (by decide) rfl (by decide) ?_
      refine z_aload_n G dX6_count_137 0 rfl ?_
      refine mg_s G hin (List.mem_of_getElem? (i := 1) rfl) dX6_count_138 ?_
      refine z_iload_n G dX6_count_141 1 rfl ?_
      refine z_bipush (v := nI 13) G dX6_count_142 rfl ?_
      refine z_isubN G dX6_count_144 (by omega) (1) (by omega) ?_
      refine ml_s G (by omega) dX6_count_145 ?_
      exact hE _ _ _ _ dX6_count_146 rfl ⟨(by rw [cnR, if_neg (show ¬ nI 14 = nI 17 by decide), if_neg (show ¬ nI 14 = nI 18 by decide), coR1_set (by decide) (by decide)]; exact (setR_in (k := 1) (by decide)).symm), rfl⟩
    · refine z_tableIn G 137 dX6_count_1 (by decide) (by decide) rfl (by decide) ?_
      refine z_aload_n G dX6_count_137 0 rfl ?_
      refine mg_s G hin (List.mem_of_getElem? (i := 1) rfl) dX6_count_138 ?_
      refine z_iload_n G dX6_count_141 1 rfl ?_
      refine z_bipush (v := nI 13) G dX6_count_142 rfl ?_
      refine z_isubN G dX6_count_144 (by omega) (2) (by omega) ?_
      refine ml_s G (by omega) dX6_count_145 ?_
      exact hE _ _ _ _ dX6_count_146 rfl ⟨(by rw [cnR, if_neg (show ¬ nI 15 = nI 17 by decide), if_neg (show ¬ nI 15 = nI 18 by decide), coR1_set (by decide) (by decide)]; exact (setR_in (k := 2) (by decide)).symm), rfl⟩
    · refine z_tableIn G 137 dX6_count_1 (by decide) (by decide) rfl (by decide) ?_
      refine z_aload_n G dX6_count_137 0 rfl ?_
      refine mg_s G hin (List.mem_of_getElem? (i := 1) rfl) dX6_count_138 ?_
      refine z_iload_n G dX6_count_141 1 rfl ?_
      refine z_bipush (v := nI 13) G dX6_count_142 rfl ?_
      refine z_isubN G dX6_count_144 (by omega) (3) (by omega) ?_
      refine ml_s G (by omega) dX6_count_145 ?_
      exact hE _ _ _ _ dX6_count_146 rfl ⟨(by rw [cnR, if_neg (show ¬ nI 16 = nI 17 by decide), if_neg (show ¬ nI 16 = nI 18 by decide), coR1_set (by decide) (by decide)]; exact (setR_in (k := 3) (by decide)).symm), rfl⟩
    · refine z_tableIn G 147 dX6_count_1 (by decide) (by decide) rfl (by decide) ?_
      refine z_aload_n G dX6_count_147 0 rfl ?_
      refine mg_length G hin (List.mem_of_getElem? (i := 2) rfl) dX6_count_148 ?_
      exact hE _ _ _ _ dX6_count_151 rfl ⟨(by rw [cnR, if_pos rfl]), rfl⟩
    · refine z_tableIn G 152 dX6_count_1 (by decide) (by decide) rfl (by decide) ?_
      refine z_aload_n G dX6_count_152 0 rfl ?_
      refine mg_states G hin (List.mem_of_getElem? (i := 3) rfl) dX6_count_153 ?_
      exact hE _ _ _ _ dX6_count_156 rfl ⟨(by rw [cnR, if_neg (show ¬ nI 18 = nI 17 by decide), if_pos rfl]), rfl⟩

theorem k_X6_why : zCal yX6_why wsX6_why cX6_why 2 (some .int) 1 := ⟨⟨_, rfl⟩, by decide +kernel⟩
theorem in_X6_why_X6 : ∀ w ∈ wsX60, w ∈ wsX6_why := fun _ h => List.mem_cons_of_mem _ (List.mem_append_right _ h)
set_option maxHeartbeats 4000000 in
set_option maxRecDepth 100000 in
theorem c_X6_why (l : Launch) (D : va_G) (y : Nat → ClassId) (b : Nat → Nat) (s : Nat → Int32) (q : mdQ) (x : Int32) : zDi l D y yX6_why wsX6_why ({ frames := 3, cells := 0, slots := 0, locals := 64 }) [.ref (b 0), .int (x)] (mdW y b s q) (if hx s x = true then rsn s x.toNatClampNeg else -1) (mdW y b s q) := by
  refine zMi.mk (cc := cX6_why) (maxL := 2) (lv := [(0, .ref (b 0)), (1, .int (x))]) (by decide) rfl (Nat.le_of_ble_eq_true rfl) rfl (fun X G hE => ?_)
  have hin := in_X6_why_X6
  refine z_aload_n G dX6_why_0 0 rfl ?_
  refine z_iload_n G dX6_why_1 1 rfl ?_
  refine z_dVi (As := [_]) G _ _ (fun l => c_X6_isGuest l D y b s q x) k_X6_isGuest gX6_why_X6_isGuest 0 6 rfl rfl rfl dX6_why_2 ⟨by decide, by decide⟩ ⟨rfl, rfl⟩ ⟨Nat.zero_le _, Nat.zero_le _⟩ rfl (Nat.le_of_ble_eq_true rfl) rfl ?_
  refine z_if_eq G dX6_why_5 16 (by decide) (fun c5 => ?_) (fun c5 => ?_)
  · refine z_iconst (v := (-1)) G dX6_why_16 rfl ?_
    exact hE _ _ _ _ dX6_why_17 rfl ⟨by first | (rw [hx_n hg, if_pos sg, nI_clamp (by omega)]) | (rw [bI_0 c5]; rfl), rfl⟩
  · obtain ⟨g, hg, rfl, sg⟩ := hx_t (bI_n c5)
    refine z_aload_n G dX6_why_8 0 rfl ?_
    refine z_iload_n G dX6_why_9 1 rfl ?_
    refine z_dVi (As := [_]) G _ _ (fun l => c_X6_reason l D y b s q hg) k_X6_reason gX6_why_X6_reason 0 6 rfl rfl rfl dX6_why_10 ⟨by decide, by decide⟩ ⟨rfl, rfl⟩ ⟨Nat.zero_le _, Nat.zero_le _⟩ rfl (Nat.le_of_ble_eq_true rfl) rfl ?_
    refine z_goto (tgt := 17) G dX6_why_13 (by decide) ?_
    exact hE _ _ _ _ dX6_why_17 rfl ⟨by first | (rw [hx_n hg, if_pos sg, nI_clamp (by omega)]) | (rw [bI_0 c5]; rfl), rfl⟩
