/-- the counts of fresh objects -/
def pF (τ : TS) : Prop := τ 1 0 = 0 ∧ τ 1 1 = 0 ∧ τ 17 3 = 0 ∧ τ 234 1 = 0 ∧ τ 234 2 = 0 ∧ τ 239 2 = 0
/-! the class's methods that want what there isn't -/
theorem l_node {τ : TS} (h : pF τ) {i : Nat} {x : Int32} {K : TS → Prop} {X : TS → Nat → Prop} (hX : X τ 0) : wpx_X8_checkNode τ i x K X := by
  unfold wpx_X8_checkNode
  rw [h.1]
  exact ⟨fun _ => hX, fun c => ⟨fun c2 => absurd c2 c, fun _ => hX⟩⟩
theorem l_link {τ : TS} (h : pF τ) {i : Nat} {x : Int32} {K : TS → Prop} {X : TS → Nat → Prop} (hX : X τ 0) : wpx_X8_checkLink τ i x K X := by
  unfold wpx_X8_checkLink
  rw [h.2.1]
  exact ⟨fun _ => hX, fun c => ⟨fun c2 => absurd c2 c, fun _ => hX⟩⟩
theorem l_conn {τ : TS} (h : pF τ) {i : Nat} {x : Int32} {K : TS → Nat → Prop} {X : TS → Nat → Prop} (hX : X τ 0) : wpx_X8_connectionOf τ i x K X := by
  unfold wpx_X8_connectionOf
  rw [h.2.2.1]
  exact ⟨fun _ => hX, fun c => ⟨fun c2 => absurd c2 c, fun _ => hX⟩⟩
theorem l_call {τ : TS} (h : pF τ) {i : Nat} {x : Int32} {K : TS → Nat → Prop} {X : TS → Nat → Prop} (hX : X τ 0) : wpx_X8_callerOf τ i x K X := by
  unfold wpx_X8_callerOf
  exact l_conn h hX
theorem l_way {τ : TS} (h : pF τ) {i : Nat} {x y : Int32} {K : TS → Nat → Prop} {X : TS → Nat → Prop} (hX : X τ 0) : wpx_X8_wayOf τ i x y K X := by
  unfold wpx_X8_wayOf
  exact l_link h hX
theorem l_addLink {τ : TS} (h : pF τ) {x1 x2 x3 x4 : Int32} {K : TS → Int32 → Prop} (hK : K τ 1) : wp_L_addLink τ 0 x1 x2 x3 x4 503 K := by
  unfold wp_L_addLink
  refine ⟨fun τ2 c => τ2 = τ ∧ c = 0, fun τ2 e => e.1 ▸ hK, fun _ e => absurd e.2 (by decide), fun _ cd e => absurd e.2 (Nat.succ_ne_zero _), ?_⟩
  unfold wpx_X8_addLink
  exact l_node h ⟨rfl, rfl⟩
theorem l_turn {τ : TS} (h : pF τ) {x1 : Int32} {K : TS → Int32 → Prop} (hK : K τ 1) : wp_L_turn τ 0 x1 503 K := by
  unfold wp_L_turn
  refine ⟨fun τ2 c => τ2 = τ ∧ c = 0, fun τ2 e => e.1 ▸ hK, fun _ e => absurd e.2 (by decide), fun _ cd e => absurd e.2 (Nat.succ_ne_zero _), ?_⟩
  unfold wpx_X8_turn
  exact l_link h ⟨rfl, rfl⟩
theorem l_lose {τ : TS} (h : pF τ) {x1 x2 x3 : Int32} {K : TS → Int32 → Prop} (hK : K τ 1) : wp_L_lose τ 0 x1 x2 x3 503 K := by
  unfold wp_L_lose
  refine ⟨fun τ2 c => τ2 = τ ∧ c = 0, fun τ2 e => e.1 ▸ hK, fun _ e => absurd e.2 (by decide), fun _ cd e => absurd e.2 (Nat.succ_ne_zero _), ?_⟩
  unfold wpx_X8_lose
  exact l_way h ⟨rfl, rfl⟩
theorem l_call {τ : TS} (h : pF τ) {x1 x2 x3 : Int32} {K : TS → Int32 → Prop} (hK : K τ 1) : wp_L_call τ 0 x1 x2 x3 503 K := by
  unfold wp_L_call
  refine ⟨fun τ2 c => τ2 = τ ∧ c = 0, fun τ2 e => e.1 ▸ hK, fun _ e => absurd e.2 (by decide), fun _ cd e => absurd e.2 (Nat.succ_ne_zero _), ?_⟩
  unfold wpx_X8_call
  exact l_node h ⟨rfl, rfl⟩
theorem l_give {τ : TS} (h : pF τ) {x1 x2 x3 : Int32} {K : TS → Int32 → Prop} (hK : K τ 1) : wp_L_give τ 0 x1 x2 x3 503 K := by
  unfold wp_L_give
  refine ⟨fun τ2 c => τ2 = τ ∧ c = 0, fun τ2 e => e.1 ▸ hK, fun _ e => absurd e.2 (by decide), fun _ cd e => absurd e.2 (Nat.succ_ne_zero _), ?_⟩
  unfold wpx_X8_give
  exact l_call h ⟨rfl, rfl⟩
theorem l_close {τ : TS} (h : pF τ) {x1 : Int32} {K : TS → Int32 → Prop} (hK : K τ 1) : wp_L_close τ 0 x1 503 K := by
  unfold wp_L_close
  refine ⟨fun τ2 c => τ2 = τ ∧ c = 0, fun τ2 e => e.1 ▸ hK, fun _ e => absurd e.2 (by decide), fun _ cd e => absurd e.2 (Nat.succ_ne_zero _), ?_⟩
  unfold wpx_X8_close
  exact l_call h ⟨rfl, rfl⟩
theorem l_read {τ : TS} (h : pF τ) {x1 x2 : Int32} {K : TS → Int32 → Prop} (hK : K τ 1) : wp_L_read τ 0 x1 x2 503 K := by
  unfold wp_L_read
  refine ⟨fun τ2 c => τ2 = τ ∧ c = 0, fun τ2 e => e.1 ▸ hK, fun _ e => absurd e.2 (by decide), fun _ cd e => absurd e.2 (Nat.succ_ne_zero _), ?_⟩
  unfold wpx_X8_read
  exact l_conn h ⟨rfl, rfl⟩
theorem l_isUp {τ : TS} (h : pF τ) {x1 : Int32} {K : TS → Int32 → Prop} (hK : K τ 1) : wp_L_isUp τ 0 x1 503 K := by
  unfold wp_L_isUp
  refine ⟨fun τ2 c => τ2 = τ ∧ c = 0, fun τ2 e => e.1 ▸ hK, fun _ e => absurd e.2 (by decide), fun _ cd e => absurd e.2 (Nat.succ_ne_zero _), ?_⟩
  unfold wpx_X8_isUp
  exact l_link h ⟨rfl, rfl⟩
theorem l_distance {τ : TS} (h : pF τ) {x1 x2 : Int32} {K : TS → Int32 → Prop} (hK : K τ 1) : wp_L_distance τ 0 x1 x2 503 K := by
  unfold wp_L_distance
  refine ⟨fun τ2 c => τ2 = τ ∧ c = 0, fun τ2 e => e.1 ▸ hK, fun _ e => absurd e.2 (by decide), fun _ cd e => absurd e.2 (Nat.succ_ne_zero _), ?_⟩
  unfold wpx_X8_distance
  exact l_node h ⟨rfl, rfl⟩
theorem l_nextLink {τ : TS} (h : pF τ) {x1 x2 : Int32} {K : TS → Int32 → Prop} (hK : K τ 1) : wp_L_nextLink τ 0 x1 x2 503 K := by
  unfold wp_L_nextLink
  refine ⟨fun τ2 c => τ2 = τ ∧ c = 0, fun τ2 e => e.1 ▸ hK, fun _ e => absurd e.2 (by decide), fun _ cd e => absurd e.2 (Nat.succ_ne_zero _), ?_⟩
  unfold wpx_X8_nextLink
  exact l_node h ⟨rfl, rfl⟩
theorem l_queued {τ : TS} (h : pF τ) {x1 x2 : Int32} {K : TS → Int32 → Prop} (hK : K τ 1) : wp_L_queued τ 0 x1 x2 503 K := by
  unfold wp_L_queued
  refine ⟨fun τ2 c => τ2 = τ ∧ c = 0, fun τ2 e => e.1 ▸ hK, fun _ e => absurd e.2 (by decide), fun _ cd e => absurd e.2 (Nat.succ_ne_zero _), ?_⟩
  unfold wpx_X8_queued
  exact l_way h ⟨rfl, rfl⟩
theorem l_flying {τ : TS} (h : pF τ) {x1 x2 : Int32} {K : TS → Int32 → Prop} (hK : K τ 1) : wp_L_flying τ 0 x1 x2 503 K := by
  unfold wp_L_flying
  refine ⟨fun τ2 c => τ2 = τ ∧ c = 0, fun τ2 e => e.1 ▸ hK, fun _ e => absurd e.2 (by decide), fun _ cd e => absurd e.2 (Nat.succ_ne_zero _), ?_⟩
  unfold wpx_X8_flying
  exact l_way h ⟨rfl, rfl⟩
theorem l_flown {τ : TS} (h : pF τ) {x1 x2 : Int32} {K : TS → Int32 → Prop} (hK : K τ 1) : wp_L_flown τ 0 x1 x2 503 K := by
  unfold wp_L_flown
  refine ⟨fun τ2 c => τ2 = τ ∧ c = 0, fun τ2 e => e.1 ▸ hK, fun _ e => absurd e.2 (by decide), fun _ cd e => absurd e.2 (Nat.succ_ne_zero _), ?_⟩
  unfold wpx_X8_flown
  exact l_way h ⟨rfl, rfl⟩
theorem l_holds {τ : TS} (h : pF τ) {x1 x2 : Int32} {K : TS → Int32 → Prop} (hK : K τ 1) : wp_L_holds τ 0 x1 x2 503 K := by
  unfold wp_L_holds
  refine ⟨fun τ2 c => τ2 = τ ∧ c = 0, fun τ2 e => e.1 ▸ hK, fun _ e => absurd e.2 (by decide), fun _ cd e => absurd e.2 (Nat.succ_ne_zero _), ?_⟩
  unfold wpx_X8_holds
  exact l_conn h ⟨rfl, rfl⟩
theorem l_readable {τ : TS} (h : pF τ) {x1 : Int32} {K : TS → Int32 → Prop} (hK : K τ 1) : wp_L_readable τ 0 x1 503 K := by
  unfold wp_L_readable
  refine ⟨fun τ2 c => τ2 = τ ∧ c = 0, fun τ2 e => e.1 ▸ hK, fun _ e => absurd e.2 (by decide), fun _ cd e => absurd e.2 (Nat.succ_ne_zero _), ?_⟩
  unfold wpx_X8_readable
  exact l_conn h ⟨rfl, rfl⟩
theorem l_hasRead {τ : TS} (h : pF τ) {x1 : Int32} {K : TS → Int32 → Prop} (hK : K τ 1) : wp_L_hasRead τ 0 x1 503 K := by
  unfold wp_L_hasRead
  refine ⟨fun τ2 c => τ2 = τ ∧ c = 0, fun τ2 e => e.1 ▸ hK, fun _ e => absurd e.2 (by decide), fun _ cd e => absurd e.2 (Nat.succ_ne_zero _), ?_⟩
  unfold wpx_X8_hasRead
  exact l_conn h ⟨rfl, rfl⟩
theorem l_ticksUntil {τ : TS} (h : pF τ) {x1 x2 x3 : Int32} {K : TS → Int32 → Prop} (hK : K τ 1) : wp_L_ticksUntil τ 0 x1 x2 x3 503 K := by
  unfold wp_L_ticksUntil
  refine ⟨fun τ2 c => τ2 = τ ∧ c = 0, fun τ2 e => e.1 ▸ hK, fun _ e => absurd e.2 (by decide), fun _ cd e => absurd e.2 (Nat.succ_ne_zero _), ?_⟩
  unfold wpx_X8_ticksUntil
  exact l_call h ⟨rfl, rfl⟩
theorem l_distanceWithout {τ : TS} (h : pF τ) {x1 x2 x3 : Int32} {K : TS → Int32 → Prop} (hK : K τ 1) : wp_L_distanceWithout τ 0 x1 x2 x3 503 K := by
  unfold wp_L_distanceWithout
  refine ⟨fun τ2 c => τ2 = τ ∧ c = 0, fun τ2 e => e.1 ▸ hK, fun _ e => absurd e.2 (by decide), fun _ cd e => absurd e.2 (Nat.succ_ne_zero _), ?_⟩
  unfold wpx_X8_distanceWithout
  exact l_link h ⟨rfl, rfl⟩
theorem l_stateOf {τ : TS} (h : pF τ) {x1 : Int32} {K : TS → Int32 → Prop} (hK : K τ 1) : wp_L_stateOf τ 0 x1 503 K := by
  unfold wp_L_stateOf
  refine ⟨fun τ2 c => τ2 = τ ∧ c = 0, fun τ2 e => e.1 ▸ hK, fun _ e => absurd e.2 (by decide), fun _ cd e => absurd e.2 (Nat.succ_ne_zero _), ?_⟩
  unfold wpx_X8_stateOf
  exact l_call h ⟨rfl, rfl⟩
theorem l_given {τ : TS} (h : pF τ) {x1 : Int32} {K : TS → Int32 → Prop} (hK : K τ 1) : wp_L_given τ 0 x1 503 K := by
  unfold wp_L_given
  refine ⟨fun τ2 c => τ2 = τ ∧ c = 0, fun τ2 e => e.1 ▸ hK, fun _ e => absurd e.2 (by decide), fun _ cd e => absurd e.2 (Nat.succ_ne_zero _), ?_⟩
  unfold wpx_X8_given
  exact l_call h ⟨rfl, rfl⟩
theorem l_base {τ : TS} (h : pF τ) {x1 : Int32} {K : TS → Int32 → Prop} (hK : K τ 1) : wp_L_base τ 0 x1 503 K := by
  unfold wp_L_base
  refine ⟨fun τ2 c => τ2 = τ ∧ c = 0, fun τ2 e => e.1 ▸ hK, fun _ e => absurd e.2 (by decide), fun _ cd e => absurd e.2 (Nat.succ_ne_zero _), ?_⟩
  unfold wpx_X8_base
  exact l_call h ⟨rfl, rfl⟩
theorem l_next {τ : TS} (h : pF τ) {x1 : Int32} {K : TS → Int32 → Prop} (hK : K τ 1) : wp_L_next τ 0 x1 503 K := by
  unfold wp_L_next
  refine ⟨fun τ2 c => τ2 = τ ∧ c = 0, fun τ2 e => e.1 ▸ hK, fun _ e => absurd e.2 (by decide), fun _ cd e => absurd e.2 (Nat.succ_ne_zero _), ?_⟩
  unfold wpx_X8_next
  exact l_call h ⟨rfl, rfl⟩
theorem l_window {τ : TS} (h : pF τ) {x1 : Int32} {K : TS → Int32 → Prop} (hK : K τ 1) : wp_L_window τ 0 x1 503 K := by
  unfold wp_L_window
  refine ⟨fun τ2 c => τ2 = τ ∧ c = 0, fun τ2 e => e.1 ▸ hK, fun _ e => absurd e.2 (by decide), fun _ cd e => absurd e.2 (Nat.succ_ne_zero _), ?_⟩
  unfold wpx_X8_window
  exact l_call h ⟨rfl, rfl⟩
theorem l_threshold {τ : TS} (h : pF τ) {x1 : Int32} {K : TS → Int32 → Prop} (hK : K τ 1) : wp_L_threshold τ 0 x1 503 K := by
  unfold wp_L_threshold
  refine ⟨fun τ2 c => τ2 = τ ∧ c = 0, fun τ2 e => e.1 ▸ hK, fun _ e => absurd e.2 (by decide), fun _ cd e => absurd e.2 (Nat.succ_ne_zero _), ?_⟩
  unfold wpx_X8_threshold
  exact l_call h ⟨rfl, rfl⟩
theorem l_room {τ : TS} (h : pF τ) {x1 : Int32} {K : TS → Int32 → Prop} (hK : K τ 1) : wp_L_room τ 0 x1 503 K := by
  unfold wp_L_room
  refine ⟨fun τ2 c => τ2 = τ ∧ c = 0, fun τ2 e => e.1 ▸ hK, fun _ e => absurd e.2 (by decide), fun _ cd e => absurd e.2 (Nat.succ_ne_zero _), ?_⟩
  unfold wpx_X8_room
  exact l_call h ⟨rfl, rfl⟩
theorem l_like {τ : TS} (h : pF τ) {x1 : Int32} {K : TS → Int32 → Prop} (hK : K τ 1) : wp_L_like τ 0 x1 503 K := by
  unfold wp_L_like
  refine ⟨fun τ2 c => τ2 = τ ∧ c = 0, fun τ2 e => e.1 ▸ hK, fun _ e => absurd e.2 (by decide), fun _ cd e => absurd e.2 (Nat.succ_ne_zero _), ?_⟩
  unfold wpx_X8_like
  exact l_call h ⟨rfl, rfl⟩
theorem l_recover {τ : TS} (h : pF τ) {x1 : Int32} {K : TS → Int32 → Prop} (hK : K τ 1) : wp_L_recover τ 0 x1 503 K := by
  unfold wp_L_recover
  refine ⟨fun τ2 c => τ2 = τ ∧ c = 0, fun τ2 e => e.1 ▸ hK, fun _ e => absurd e.2 (by decide), fun _ cd e => absurd e.2 (Nat.succ_ne_zero _), ?_⟩
  unfold wpx_X8_recover
  exact l_call h ⟨rfl, rfl⟩
theorem l_round {τ : TS} (h : pF τ) {x1 : Int32} {K : TS → Int32 → Prop} (hK : K τ 1) : wp_L_round τ 0 x1 503 K := by
  unfold wp_L_round
  refine ⟨fun τ2 c => τ2 = τ ∧ c = 0, fun τ2 e => e.1 ▸ hK, fun _ e => absurd e.2 (by decide), fun _ cd e => absurd e.2 (Nat.succ_ne_zero _), ?_⟩
  unfold wpx_X8_round
  exact l_call h ⟨rfl, rfl⟩
theorem l_swing {τ : TS} (h : pF τ) {x1 : Int32} {K : TS → Int32 → Prop} (hK : K τ 1) : wp_L_swing τ 0 x1 503 K := by
  unfold wp_L_swing
  refine ⟨fun τ2 c => τ2 = τ ∧ c = 0, fun τ2 e => e.1 ▸ hK, fun _ e => absurd e.2 (by decide), fun _ cd e => absurd e.2 (Nat.succ_ne_zero _), ?_⟩
  unfold wpx_X8_swing
  exact l_call h ⟨rfl, rfl⟩
theorem l_timeout {τ : TS} (h : pF τ) {x1 : Int32} {K : TS → Int32 → Prop} (hK : K τ 1) : wp_L_timeout τ 0 x1 503 K := by
  unfold wp_L_timeout
  refine ⟨fun τ2 c => τ2 = τ ∧ c = 0, fun τ2 e => e.1 ▸ hK, fun _ e => absurd e.2 (by decide), fun _ cd e => absurd e.2 (Nat.succ_ne_zero _), ?_⟩
  unfold wpx_X8_timeout
  exact l_call h ⟨rfl, rfl⟩
theorem l_timer {τ : TS} (h : pF τ) {x1 : Int32} {K : TS → Int32 → Prop} (hK : K τ 1) : wp_L_timer τ 0 x1 503 K := by
  unfold wp_L_timer
  refine ⟨fun τ2 c => τ2 = τ ∧ c = 0, fun τ2 e => e.1 ▸ hK, fun _ e => absurd e.2 (by decide), fun _ cd e => absurd e.2 (Nat.succ_ne_zero _), ?_⟩
  unfold wpx_X8_timer
  exact l_call h ⟨rfl, rfl⟩
theorem l_measured {τ : TS} (h : pF τ) {x1 : Int32} {K : TS → Int32 → Prop} (hK : K τ 1) : wp_L_measured τ 0 x1 503 K := by
  unfold wp_L_measured
  refine ⟨fun τ2 c => τ2 = τ ∧ c = 0, fun τ2 e => e.1 ▸ hK, fun _ e => absurd e.2 (by decide), fun _ cd e => absurd e.2 (Nat.succ_ne_zero _), ?_⟩
  unfold wpx_X8_measured
  exact l_call h ⟨rfl, rfl⟩
theorem l_tries {τ : TS} (h : pF τ) {x1 : Int32} {K : TS → Int32 → Prop} (hK : K τ 1) : wp_L_tries τ 0 x1 503 K := by
  unfold wp_L_tries
  refine ⟨fun τ2 c => τ2 = τ ∧ c = 0, fun τ2 e => e.1 ▸ hK, fun _ e => absurd e.2 (by decide), fun _ cd e => absurd e.2 (Nat.succ_ne_zero _), ?_⟩
  unfold wpx_X8_tries
  exact l_call h ⟨rfl, rfl⟩
theorem l_sentAgain {τ : TS} (h : pF τ) {x1 : Int32} {K : TS → Int32 → Prop} (hK : K τ 1) : wp_L_sentAgain τ 0 x1 503 K := by
  unfold wp_L_sentAgain
  refine ⟨fun τ2 c => τ2 = τ ∧ c = 0, fun τ2 e => e.1 ▸ hK, fun _ e => absurd e.2 (by decide), fun _ cd e => absurd e.2 (Nat.succ_ne_zero _), ?_⟩
  unfold wpx_X8_sentAgain
  exact l_call h ⟨rfl, rfl⟩
theorem l_wanted {τ : TS} (h : pF τ) {x1 : Int32} {K : TS → Int32 → Prop} (hK : K τ 1) : wp_L_wanted τ 0 x1 503 K := by
  unfold wp_L_wanted
  refine ⟨fun τ2 c => τ2 = τ ∧ c = 0, fun τ2 e => e.1 ▸ hK, fun _ e => absurd e.2 (by decide), fun _ cd e => absurd e.2 (Nat.succ_ne_zero _), ?_⟩
  unfold wpx_X8_wanted
  exact l_conn h ⟨rfl, rfl⟩
/-! the reference's -/
theorem m_is {τ : TS} {x : Int32} {K : TS → Int32 → Prop} (hK : K τ 0) : wp_X11_is τ x 0 (0 - 1) K := by
  unfold wp_X11_is
  refine ⟨fun _ => hK, fun c => ⟨fun _ => hK, fun c2 => ?_⟩⟩
  exfalso
  simp only [fa_lt, fa_le, fa_eq, q_add, q_sub, q_ite, Int32.reduceToInt] at c c2
  omega
theorem m_isNode {τ : TS} (h : τ 234 1 = 0) {x : Int32} {K : TS → Int32 → Prop} (hK : K τ 0) : wp_X11_isNode τ 234 x K := by
  unfold wp_X11_isNode
  rw [h]
  exact m_is ⟨tp_z0, hK⟩
theorem m_isLink {τ : TS} (h : τ 234 2 = 0) {x : Int32} {K : TS → Int32 → Prop} (hK : K τ 0) : wp_X11_isLink τ 234 x K := by
  unfold wp_X11_isLink
  rw [h]
  exact m_is ⟨tp_z0, hK⟩
theorem m_isCall {τ : TS} (h : τ 239 2 = 0) {x : Int32} {K : TS → Int32 → Prop} (hK : K τ 0) : wp_X11_isCall τ 234 x K := by
  unfold wp_X11_isCall
  rw [h]
  exact m_is ⟨tp_z0, hK⟩
theorem m_refuse {τ : TS} {K : TS → Int32 → Prop} (hK : ∀ τ2 : TS, τ2 234 0 = 1 → K τ2 0) : wp_X11_refuse τ 234 1 K := by
  unfold wp_X11_refuse
  intro τ2 e
  subst e
  exact hK _ rfl
theorem m_of {τ : TS} (h : pF τ) {x y : Int32} {K : TS → Int32 → Prop} (hK : ∀ (τ2 : TS) (r : Int32), τ2 234 0 = 1 → K τ2 r) : wp_X11_of τ 234 x y K := by
  unfold wp_X11_of
  intro τ2 e
  subst e
  exact m_isCall (h.2.2.2.2.2) ⟨fun _ => m_refuse (fun _ e => hK _ _ e), fun c => absurd rfl c⟩
theorem m_hasWay {τ : TS} (h : pF τ) {x y : Int32} {K : TS → Int32 → Prop} (hK : ∀ τ2 : TS, τ2 234 0 = 1 → K τ2 0) : wp_X11_hasWay τ 234 x y K := by
  unfold wp_X11_hasWay
  refine m_isLink h.2.2.2.2.1 ⟨fun _ τ2 e => ?_, fun c => absurd rfl c⟩
  subst e
  exact ⟨fun _ => hK _ rfl, fun c => absurd c (by decide)⟩
/-- both have refused -/
theorem l_end {τ : TS} (h : τ 234 0 = 1) {A : Prop} : wp_X11_thrown τ 234 (fun _ x => ((x = 1) → (((¬ (1 : Int32) = 0) → True) ∧ (((1 : Int32) = 0) → A))) ∧ ((¬ x = 1) → False)) := by
  unfold wp_X11_thrown
  rw [h]
  exact ⟨fun _ => ⟨fun _ => trivial, fun c => absurd c (by decide)⟩, fun c => c rfl⟩
theorem m_stateOf {τ : TS} (h : pF τ) {x : Int32} {K : TS → Int32 → Prop} (hK : ∀ (τ2 : TS) (r : Int32), τ2 234 0 = 1 → K τ2 r) : wp_X11_stateOf τ 234 x K := by
  unfold wp_X11_stateOf
  exact m_of h hK
theorem m_given {τ : TS} (h : pF τ) {x : Int32} {K : TS → Int32 → Prop} (hK : ∀ (τ2 : TS) (r : Int32), τ2 234 0 = 1 → K τ2 r) : wp_X11_given τ 234 x K := by
  unfold wp_X11_given
  exact m_of h hK
theorem m_base {τ : TS} (h : pF τ) {x : Int32} {K : TS → Int32 → Prop} (hK : ∀ (τ2 : TS) (r : Int32), τ2 234 0 = 1 → K τ2 r) : wp_X11_base τ 234 x K := by
  unfold wp_X11_base
  exact m_of h hK
theorem m_next {τ : TS} (h : pF τ) {x : Int32} {K : TS → Int32 → Prop} (hK : ∀ (τ2 : TS) (r : Int32), τ2 234 0 = 1 → K τ2 r) : wp_X11_next τ 234 x K := by
  unfold wp_X11_next
  exact m_of h hK
theorem m_window {τ : TS} (h : pF τ) {x : Int32} {K : TS → Int32 → Prop} (hK : ∀ (τ2 : TS) (r : Int32), τ2 234 0 = 1 → K τ2 r) : wp_X11_window τ 234 x K := by
  unfold wp_X11_window
  exact m_of h hK
theorem m_threshold {τ : TS} (h : pF τ) {x : Int32} {K : TS → Int32 → Prop} (hK : ∀ (τ2 : TS) (r : Int32), τ2 234 0 = 1 → K τ2 r) : wp_X11_threshold τ 234 x K := by
  unfold wp_X11_threshold
  exact m_of h hK
theorem m_room {τ : TS} (h : pF τ) {x : Int32} {K : TS → Int32 → Prop} (hK : ∀ (τ2 : TS) (r : Int32), τ2 234 0 = 1 → K τ2 r) : wp_X11_room τ 234 x K := by
  unfold wp_X11_room
  exact m_of h hK
theorem m_like {τ : TS} (h : pF τ) {x : Int32} {K : TS → Int32 → Prop} (hK : ∀ (τ2 : TS) (r : Int32), τ2 234 0 = 1 → K τ2 r) : wp_X11_like τ 234 x K := by
  unfold wp_X11_like
  exact m_of h hK
theorem m_recover {τ : TS} (h : pF τ) {x : Int32} {K : TS → Int32 → Prop} (hK : ∀ (τ2 : TS) (r : Int32), τ2 234 0 = 1 → K τ2 r) : wp_X11_recover τ 234 x K := by
  unfold wp_X11_recover
  exact m_of h hK
theorem m_round {τ : TS} (h : pF τ) {x : Int32} {K : TS → Int32 → Prop} (hK : ∀ (τ2 : TS) (r : Int32), τ2 234 0 = 1 → K τ2 r) : wp_X11_round τ 234 x K := by
  unfold wp_X11_round
  exact m_of h hK
theorem m_swing {τ : TS} (h : pF τ) {x : Int32} {K : TS → Int32 → Prop} (hK : ∀ (τ2 : TS) (r : Int32), τ2 234 0 = 1 → K τ2 r) : wp_X11_swing τ 234 x K := by
  unfold wp_X11_swing
  exact m_of h hK
theorem m_timeout {τ : TS} (h : pF τ) {x : Int32} {K : TS → Int32 → Prop} (hK : ∀ (τ2 : TS) (r : Int32), τ2 234 0 = 1 → K τ2 r) : wp_X11_timeout τ 234 x K := by
  unfold wp_X11_timeout
  exact m_of h hK
theorem m_timer {τ : TS} (h : pF τ) {x : Int32} {K : TS → Int32 → Prop} (hK : ∀ (τ2 : TS) (r : Int32), τ2 234 0 = 1 → K τ2 r) : wp_X11_timer τ 234 x K := by
  unfold wp_X11_timer
  exact m_of h hK
theorem m_measured {τ : TS} (h : pF τ) {x : Int32} {K : TS → Int32 → Prop} (hK : ∀ (τ2 : TS) (r : Int32), τ2 234 0 = 1 → K τ2 r) : wp_X11_measured τ 234 x K := by
  unfold wp_X11_measured
  exact m_of h hK
theorem m_tries {τ : TS} (h : pF τ) {x : Int32} {K : TS → Int32 → Prop} (hK : ∀ (τ2 : TS) (r : Int32), τ2 234 0 = 1 → K τ2 r) : wp_X11_tries τ 234 x K := by
  unfold wp_X11_tries
  exact m_of h hK
theorem m_sentAgain {τ : TS} (h : pF τ) {x : Int32} {K : TS → Int32 → Prop} (hK : ∀ (τ2 : TS) (r : Int32), τ2 234 0 = 1 → K τ2 r) : wp_X11_sentAgain τ 234 x K := by
  unfold wp_X11_sentAgain
  exact m_of h hK
theorem m_wanted {τ : TS} (h : pF τ) {x : Int32} {K : TS → Int32 → Prop} (hK : ∀ (τ2 : TS) (r : Int32), τ2 234 0 = 1 → K τ2 r) : wp_X11_wanted τ 234 x K := by
  unfold wp_X11_wanted
  exact m_of h hK
theorem m_hasRead {τ : TS} (h : pF τ) {x : Int32} {K : TS → Int32 → Prop} (hK : ∀ (τ2 : TS) (r : Int32), τ2 234 0 = 1 → K τ2 r) : wp_X11_hasRead τ 234 x K := by
  unfold wp_X11_hasRead
  exact m_of h hK
theorem m_queued {τ : TS} (h : pF τ) {x y : Int32} {K : TS → Int32 → Prop} (hK : ∀ (τ2 : TS) (r : Int32), τ2 234 0 = 1 → K τ2 r) : wp_X11_queued τ 234 x y K := by
  unfold wp_X11_queued
  exact m_hasWay h (fun τ2 e => ⟨fun _ => hK _ _ e, fun c => absurd rfl c⟩)
theorem m_flying {τ : TS} (h : pF τ) {x y : Int32} {K : TS → Int32 → Prop} (hK : ∀ (τ2 : TS) (r : Int32), τ2 234 0 = 1 → K τ2 r) : wp_X11_flying τ 234 x y K := by
  unfold wp_X11_flying
  exact m_hasWay h (fun τ2 e => ⟨fun _ => hK _ _ e, fun c => absurd rfl c⟩)
theorem m_flown {τ : TS} (h : pF τ) {x y : Int32} {K : TS → Int32 → Prop} (hK : ∀ (τ2 : TS) (r : Int32), τ2 234 0 = 1 → K τ2 r) : wp_X11_flown τ 234 x y K := by
  unfold wp_X11_flown
  exact m_hasWay h (fun τ2 e => ⟨fun _ => hK _ _ e, fun c => absurd rfl c⟩)
theorem m_addLink {τ : TS} (h : pF τ) {x1 x2 x3 x4 : Int32} {K : TS → Int32 → Prop} (hK : ∀ (τ2 : TS) (r : Int32), τ2 234 0 = 1 → K τ2 r) : wp_X11_addLink τ 234 x1 x2 x3 x4 K := by
  unfold wp_X11_addLink
  intro τ2 e
  subst e
  refine m_isNode h.2.2.2.1 ?_
  first
    | exact ⟨fun _ => m_refuse (fun _ e => hK _ _ e), fun c => absurd rfl c⟩
    | exact ⟨fun c => absurd rfl c, fun _ => m_refuse (fun _ e => hK _ _ e)⟩
    | exact ⟨_, fun _ j => j ▸ m_refuse (fun _ e => hK _ _ e), fun _ => rfl, fun c => absurd rfl c⟩
theorem m_turn {τ : TS} (h : pF τ) {x1 : Int32} {K : TS → Int32 → Prop} (hK : ∀ (τ2 : TS) (r : Int32), τ2 234 0 = 1 → K τ2 r) : wp_X11_turn τ 234 x1 K := by
  unfold wp_X11_turn
  intro τ2 e
  subst e
  refine m_isLink h.2.2.2.2.1 ?_
  first
    | exact ⟨fun _ => m_refuse (fun _ e => hK _ _ e), fun c => absurd rfl c⟩
    | exact ⟨fun c => absurd rfl c, fun _ => m_refuse (fun _ e => hK _ _ e)⟩
    | exact ⟨_, fun _ j => j ▸ m_refuse (fun _ e => hK _ _ e), fun _ => rfl, fun c => absurd rfl c⟩
theorem m_lose {τ : TS} (h : pF τ) {x1 x2 x3 : Int32} {K : TS → Int32 → Prop} (hK : ∀ (τ2 : TS) (r : Int32), τ2 234 0 = 1 → K τ2 r) : wp_X11_lose τ 234 x1 x2 x3 K := by
  unfold wp_X11_lose
  intro τ2 e
  subst e
  refine m_isLink h.2.2.2.2.1 ?_
  first
    | exact ⟨fun _ => m_refuse (fun _ e => hK _ _ e), fun c => absurd rfl c⟩
    | exact ⟨fun c => absurd rfl c, fun _ => m_refuse (fun _ e => hK _ _ e)⟩
    | exact ⟨_, fun _ j => j ▸ m_refuse (fun _ e => hK _ _ e), fun _ => rfl, fun c => absurd rfl c⟩
theorem m_call {τ : TS} (h : pF τ) {x1 x2 x3 : Int32} {K : TS → Int32 → Prop} (hK : ∀ (τ2 : TS) (r : Int32), τ2 234 0 = 1 → K τ2 r) : wp_X11_call τ 234 x1 x2 x3 K := by
  unfold wp_X11_call
  intro τ2 e
  subst e
  refine m_isNode h.2.2.2.1 ?_
  first
    | exact ⟨fun _ => m_refuse (fun _ e => hK _ _ e), fun c => absurd rfl c⟩
    | exact ⟨fun c => absurd rfl c, fun _ => m_refuse (fun _ e => hK _ _ e)⟩
    | exact ⟨_, fun _ j => j ▸ m_refuse (fun _ e => hK _ _ e), fun _ => rfl, fun c => absurd rfl c⟩
theorem m_give {τ : TS} (h : pF τ) {x1 x2 x3 : Int32} {K : TS → Int32 → Prop} (hK : ∀ (τ2 : TS) (r : Int32), τ2 234 0 = 1 → K τ2 r) : wp_X11_give τ 234 x1 x2 x3 K := by
  unfold wp_X11_give
  intro τ2 e
  subst e
  refine m_isCall h.2.2.2.2.2 ?_
  first
    | exact ⟨fun _ => m_refuse (fun _ e => hK _ _ e), fun c => absurd rfl c⟩
    | exact ⟨fun c => absurd rfl c, fun _ => m_refuse (fun _ e => hK _ _ e)⟩
    | exact ⟨_, fun _ j => j ▸ m_refuse (fun _ e => hK _ _ e), fun _ => rfl, fun c => absurd rfl c⟩
theorem m_close {τ : TS} (h : pF τ) {x1 : Int32} {K : TS → Int32 → Prop} (hK : ∀ (τ2 : TS) (r : Int32), τ2 234 0 = 1 → K τ2 r) : wp_X11_close τ 234 x1 K := by
  unfold wp_X11_close
  intro τ2 e
  subst e
  refine m_isCall h.2.2.2.2.2 ?_
  first
    | exact ⟨fun _ => m_refuse (fun _ e => hK _ _ e), fun c => absurd rfl c⟩
    | exact ⟨fun c => absurd rfl c, fun _ => m_refuse (fun _ e => hK _ _ e)⟩
    | exact ⟨_, fun _ j => j ▸ m_refuse (fun _ e => hK _ _ e), fun _ => rfl, fun c => absurd rfl c⟩
theorem m_read {τ : TS} (h : pF τ) {x1 x2 : Int32} {K : TS → Int32 → Prop} (hK : ∀ (τ2 : TS) (r : Int32), τ2 234 0 = 1 → K τ2 r) : wp_X11_read τ 234 x1 x2 K := by
  unfold wp_X11_read
  intro τ2 e
  subst e
  refine m_isCall h.2.2.2.2.2 ?_
  first
    | exact ⟨fun _ => m_refuse (fun _ e => hK _ _ e), fun c => absurd rfl c⟩
    | exact ⟨fun c => absurd rfl c, fun _ => m_refuse (fun _ e => hK _ _ e)⟩
    | exact ⟨_, fun _ j => j ▸ m_refuse (fun _ e => hK _ _ e), fun _ => rfl, fun c => absurd rfl c⟩
theorem m_distance {τ : TS} (h : pF τ) {x1 x2 : Int32} {K : TS → Int32 → Prop} (hK : ∀ (τ2 : TS) (r : Int32), τ2 234 0 = 1 → K τ2 r) : wp_X11_distance τ 234 x1 x2 K := by
  unfold wp_X11_distance
  intro τ2 e
  subst e
  refine m_isNode h.2.2.2.1 ?_
  first
    | exact ⟨fun _ => m_refuse (fun _ e => hK _ _ e), fun c => absurd rfl c⟩
    | exact ⟨fun c => absurd rfl c, fun _ => m_refuse (fun _ e => hK _ _ e)⟩
    | exact ⟨_, fun _ j => j ▸ m_refuse (fun _ e => hK _ _ e), fun _ => rfl, fun c => absurd rfl c⟩
theorem m_nextLink {τ : TS} (h : pF τ) {x1 x2 : Int32} {K : TS → Int32 → Prop} (hK : ∀ (τ2 : TS) (r : Int32), τ2 234 0 = 1 → K τ2 r) : wp_X11_nextLink τ 234 x1 x2 K := by
  unfold wp_X11_nextLink
  intro τ2 e
  subst e
  refine m_isNode h.2.2.2.1 ?_
  first
    | exact ⟨fun _ => m_refuse (fun _ e => hK _ _ e), fun c => absurd rfl c⟩
    | exact ⟨fun c => absurd rfl c, fun _ => m_refuse (fun _ e => hK _ _ e)⟩
    | exact ⟨_, fun _ j => j ▸ m_refuse (fun _ e => hK _ _ e), fun _ => rfl, fun c => absurd rfl c⟩
theorem m_readable {τ : TS} (h : pF τ) {x1 : Int32} {K : TS → Int32 → Prop} (hK : ∀ (τ2 : TS) (r : Int32), τ2 234 0 = 1 → K τ2 r) : wp_X11_readable τ 234 x1 K := by
  unfold wp_X11_readable
  intro τ2 e
  subst e
  refine m_isCall h.2.2.2.2.2 ?_
  first
    | exact ⟨fun _ => m_refuse (fun _ e => hK _ _ e), fun c => absurd rfl c⟩
    | exact ⟨fun c => absurd rfl c, fun _ => m_refuse (fun _ e => hK _ _ e)⟩
    | exact ⟨_, fun _ j => j ▸ m_refuse (fun _ e => hK _ _ e), fun _ => rfl, fun c => absurd rfl c⟩
theorem m_ticksUntil {τ : TS} (h : pF τ) {x1 x2 x3 : Int32} {K : TS → Int32 → Prop} (hK : ∀ (τ2 : TS) (r : Int32), τ2 234 0 = 1 → K τ2 r) : wp_X11_ticksUntil τ 234 x1 x2 x3 K := by
  unfold wp_X11_ticksUntil
  intro τ2 e
  subst e
  refine m_isCall h.2.2.2.2.2 ?_
  first
    | exact ⟨fun _ => m_refuse (fun _ e => hK _ _ e), fun c => absurd rfl c⟩
    | exact ⟨fun c => absurd rfl c, fun _ => m_refuse (fun _ e => hK _ _ e)⟩
    | exact ⟨_, fun _ j => j ▸ m_refuse (fun _ e => hK _ _ e), fun _ => rfl, fun c => absurd rfl c⟩
theorem m_distanceWithout {τ : TS} (h : pF τ) {x1 x2 x3 : Int32} {K : TS → Int32 → Prop} (hK : ∀ (τ2 : TS) (r : Int32), τ2 234 0 = 1 → K τ2 r) : wp_X11_distanceWithout τ 234 x1 x2 x3 K := by
  unfold wp_X11_distanceWithout
  intro τ2 e
  subst e
  refine m_isLink h.2.2.2.2.1 ?_
  first
    | exact ⟨fun _ => m_refuse (fun _ e => hK _ _ e), fun c => absurd rfl c⟩
    | exact ⟨fun c => absurd rfl c, fun _ => m_refuse (fun _ e => hK _ _ e)⟩
    | exact ⟨_, fun _ j => j ▸ m_refuse (fun _ e => hK _ _ e), fun _ => rfl, fun c => absurd rfl c⟩
theorem m_isUp {τ : TS} (h : pF τ) {x : Int32} {K : TS → Int32 → Prop} (hK : ∀ (τ2 : TS) (r : Int32), τ2 234 0 = 1 → K τ2 r) : wp_X11_isUp τ 234 x K := by
  unfold wp_X11_isUp
  refine m_isLink h.2.2.2.2.1 ⟨fun _ τ2 e => ?_, fun c => absurd rfl c⟩
  subst e
  exact ⟨fun _ => hK _ _ rfl, fun c => absurd c (by decide)⟩
theorem m_holds {τ : TS} (h : pF τ) {x y : Int32} {K : TS → Int32 → Prop} (hK : ∀ (τ2 : TS) (r : Int32), τ2 234 0 = 1 → K τ2 r) : wp_X11_holds τ 234 x y K := by
  unfold wp_X11_holds
  refine m_isCall h.2.2.2.2.2 ⟨fun v => v = 1, fun v e τ2 e2 => ?_, fun _ => rfl, fun c => absurd rfl c⟩
  subst e e2
  exact ⟨fun _ => hK _ _ rfl, fun c => absurd c (by decide)⟩
