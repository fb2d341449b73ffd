/-- the counts of fresh objects -/
def pF (τ : TS) : Prop := τ 1 0 = 0 ∧ τ 1 1 = 0 ∧ τ 17 3 = 0 ∧ τ 234 1 = 0 ∧ τ 234 2 = 0 ∧ τ 239 2 = 0
/-! the class's methods that want what there isn't -/
theorem lf_node {τ : TS} (h : pF τ) {i : Nat} {x : Int32} {K : TS → Prop} {X : TS → Nat → Prop} (hX : X τ 0) : wpx_X8_checkNode τ i x K X := by
  unfold wpx_X8_checkNode
  rw [h.1]
  exact ⟨fun _ => hX, fun c => ⟨fun c2 => absurd c2 c, fun _ => hX⟩⟩
theorem lf_link {τ : TS} (h : pF τ) {i : Nat} {x : Int32} {K : TS → Prop} {X : TS → Nat → Prop} (hX : X τ 0) : wpx_X8_checkLink τ i x K X := by
  unfold wpx_X8_checkLink
  rw [h.2.1]
  exact ⟨fun _ => hX, fun c => ⟨fun c2 => absurd c2 c, fun _ => hX⟩⟩
theorem lf_conn {τ : TS} (h : pF τ) {i : Nat} {x : Int32} {K : TS → Nat → Prop} {X : TS → Nat → Prop} (hX : X τ 0) : wpx_X8_connectionOf τ i x K X := by
  unfold wpx_X8_connectionOf
  rw [h.2.2.1]
  exact ⟨fun _ => hX, fun c => ⟨fun c2 => absurd c2 c, fun _ => hX⟩⟩
theorem lf_callr {τ : TS} (h : pF τ) {i : Nat} {x : Int32} {K : TS → Nat → Prop} {X : TS → Nat → Prop} (hX : X τ 0) : wpx_X8_callerOf τ i x K X := by
  unfold wpx_X8_callerOf
  exact lf_conn h hX
theorem lf_way {τ : TS} (h : pF τ) {i : Nat} {x y : Int32} {K : TS → Nat → Prop} {X : TS → Nat → Prop} (hX : X τ 0) : wpx_X8_wayOf τ i x y K X := by
  unfold wpx_X8_wayOf
  exact lf_link h hX
theorem lf_addLink {τ : TS} (h : pF τ) {x1 x2 x3 x4 : Int32} {K : TS → Int32 → Prop} (hK : K τ 1) : wp_L_addLink τ 0 x1 x2 x3 x4 503 K := by
  unfold wp_L_addLink
  refine ⟨fun τ2 c => τ2 = τ ∧ c = 0, fun τ2 e => e.1 ▸ hK, fun _ e => absurd e.2 (by decide), fun _ cd e => absurd e.2 (Nat.succ_ne_zero _), ?_⟩
  unfold wpx_X8_addLink
  exact lf_node h ⟨rfl, rfl⟩
theorem lf_turn {τ : TS} (h : pF τ) {x1 : Int32} {K : TS → Int32 → Prop} (hK : K τ 1) : wp_L_turn τ 0 x1 503 K := by
  unfold wp_L_turn
  refine ⟨fun τ2 c => τ2 = τ ∧ c = 0, fun τ2 e => e.1 ▸ hK, fun _ e => absurd e.2 (by decide), fun _ cd e => absurd e.2 (Nat.succ_ne_zero _), ?_⟩
  unfold wpx_X8_turn
  exact lf_link h ⟨rfl, rfl⟩
theorem lf_lose {τ : TS} (h : pF τ) {x1 x2 x3 : Int32} {K : TS → Int32 → Prop} (hK : K τ 1) : wp_L_lose τ 0 x1 x2 x3 503 K := by
  unfold wp_L_lose
  refine ⟨fun τ2 c => τ2 = τ ∧ c = 0, fun τ2 e => e.1 ▸ hK, fun _ e => absurd e.2 (by decide), fun _ cd e => absurd e.2 (Nat.succ_ne_zero _), ?_⟩
  unfold wpx_X8_lose
  exact lf_way h ⟨rfl, rfl⟩
theorem lf_call {τ : TS} (h : pF τ) {x1 x2 x3 : Int32} {K : TS → Int32 → Prop} (hK : K τ 1) : wp_L_call τ 0 x1 x2 x3 503 K := by
  unfold wp_L_call
  refine ⟨fun τ2 c => τ2 = τ ∧ c = 0, fun τ2 e => e.1 ▸ hK, fun _ e => absurd e.2 (by decide), fun _ cd e => absurd e.2 (Nat.succ_ne_zero _), ?_⟩
  unfold wpx_X8_call
  exact lf_node h ⟨rfl, rfl⟩
theorem lf_give {τ : TS} (h : pF τ) {x1 x2 x3 : Int32} {K : TS → Int32 → Prop} (hK : K τ 1) : wp_L_give τ 0 x1 x2 x3 503 K := by
  unfold wp_L_give
  refine ⟨fun τ2 c => τ2 = τ ∧ c = 0, fun τ2 e => e.1 ▸ hK, fun _ e => absurd e.2 (by decide), fun _ cd e => absurd e.2 (Nat.succ_ne_zero _), ?_⟩
  unfold wpx_X8_give
  exact lf_callr h ⟨rfl, rfl⟩
theorem lf_close {τ : TS} (h : pF τ) {x1 : Int32} {K : TS → Int32 → Prop} (hK : K τ 1) : wp_L_close τ 0 x1 503 K := by
  unfold wp_L_close
  refine ⟨fun τ2 c => τ2 = τ ∧ c = 0, fun τ2 e => e.1 ▸ hK, fun _ e => absurd e.2 (by decide), fun _ cd e => absurd e.2 (Nat.succ_ne_zero _), ?_⟩
  unfold wpx_X8_close
  exact lf_callr h ⟨rfl, rfl⟩
theorem lf_read {τ : TS} (h : pF τ) {x1 x2 : Int32} {K : TS → Int32 → Prop} (hK : K τ 1) : wp_L_read τ 0 x1 x2 503 K := by
  unfold wp_L_read
  refine ⟨fun τ2 c => τ2 = τ ∧ c = 0, fun τ2 e => e.1 ▸ hK, fun _ e => absurd e.2 (by decide), fun _ cd e => absurd e.2 (Nat.succ_ne_zero _), ?_⟩
  unfold wpx_X8_read
  exact lf_conn h ⟨rfl, rfl⟩
theorem lf_isUp {τ : TS} (h : pF τ) {x1 : Int32} {K : TS → Int32 → Prop} (hK : K τ 1) : wp_L_isUp τ 0 x1 503 K := by
  unfold wp_L_isUp
  refine ⟨fun τ2 c => τ2 = τ ∧ c = 0, fun τ2 e => e.1 ▸ hK, fun _ e => absurd e.2 (by decide), fun _ cd e => absurd e.2 (Nat.succ_ne_zero _), ?_⟩
  unfold wpx_X8_isUp
  exact lf_link h ⟨rfl, rfl⟩
theorem lf_distance {τ : TS} (h : pF τ) {x1 x2 : Int32} {K : TS → Int32 → Prop} (hK : K τ 1) : wp_L_distance τ 0 x1 x2 503 K := by
  unfold wp_L_distance
  refine ⟨fun τ2 c => τ2 = τ ∧ c = 0, fun τ2 e => e.1 ▸ hK, fun _ e => absurd e.2 (by decide), fun _ cd e => absurd e.2 (Nat.succ_ne_zero _), ?_⟩
  unfold wpx_X8_distance
  exact lf_node h ⟨rfl, rfl⟩
theorem lf_nextLink {τ : TS} (h : pF τ) {x1 x2 : Int32} {K : TS → Int32 → Prop} (hK : K τ 1) : wp_L_nextLink τ 0 x1 x2 503 K := by
  unfold wp_L_nextLink
  refine ⟨fun τ2 c => τ2 = τ ∧ c = 0, fun τ2 e => e.1 ▸ hK, fun _ e => absurd e.2 (by decide), fun _ cd e => absurd e.2 (Nat.succ_ne_zero _), ?_⟩
  unfold wpx_X8_nextLink
  exact lf_node h ⟨rfl, rfl⟩
theorem lf_queued {τ : TS} (h : pF τ) {x1 x2 : Int32} {K : TS → Int32 → Prop} (hK : K τ 1) : wp_L_queued τ 0 x1 x2 503 K := by
  unfold wp_L_queued
  refine ⟨fun τ2 c => τ2 = τ ∧ c = 0, fun τ2 e => e.1 ▸ hK, fun _ e => absurd e.2 (by decide), fun _ cd e => absurd e.2 (Nat.succ_ne_zero _), ?_⟩
  unfold wpx_X8_queued
  exact lf_way h ⟨rfl, rfl⟩
theorem lf_flying {τ : TS} (h : pF τ) {x1 x2 : Int32} {K : TS → Int32 → Prop} (hK : K τ 1) : wp_L_flying τ 0 x1 x2 503 K := by
  unfold wp_L_flying
  refine ⟨fun τ2 c => τ2 = τ ∧ c = 0, fun τ2 e => e.1 ▸ hK, fun _ e => absurd e.2 (by decide), fun _ cd e => absurd e.2 (Nat.succ_ne_zero _), ?_⟩
  unfold wpx_X8_flying
  exact lf_way h ⟨rfl, rfl⟩
theorem lf_flown {τ : TS} (h : pF τ) {x1 x2 : Int32} {K : TS → Int32 → Prop} (hK : K τ 1) : wp_L_flown τ 0 x1 x2 503 K := by
  unfold wp_L_flown
  refine ⟨fun τ2 c => τ2 = τ ∧ c = 0, fun τ2 e => e.1 ▸ hK, fun _ e => absurd e.2 (by decide), fun _ cd e => absurd e.2 (Nat.succ_ne_zero _), ?_⟩
  unfold wpx_X8_flown
  exact lf_way h ⟨rfl, rfl⟩
theorem lf_holds {τ : TS} (h : pF τ) {x1 x2 : Int32} {K : TS → Int32 → Prop} (hK : K τ 1) : wp_L_holds τ 0 x1 x2 503 K := by
  unfold wp_L_holds
  refine ⟨fun τ2 c => τ2 = τ ∧ c = 0, fun τ2 e => e.1 ▸ hK, fun _ e => absurd e.2 (by decide), fun _ cd e => absurd e.2 (Nat.succ_ne_zero _), ?_⟩
  unfold wpx_X8_holds
  exact lf_conn h ⟨rfl, rfl⟩
theorem lf_readable {τ : TS} (h : pF τ) {x1 : Int32} {K : TS → Int32 → Prop} (hK : K τ 1) : wp_L_readable τ 0 x1 503 K := by
  unfold wp_L_readable
  refine ⟨fun τ2 c => τ2 = τ ∧ c = 0, fun τ2 e => e.1 ▸ hK, fun _ e => absurd e.2 (by decide), fun _ cd e => absurd e.2 (Nat.succ_ne_zero _), ?_⟩
  unfold wpx_X8_readable
  exact lf_conn h ⟨rfl, rfl⟩
theorem lf_hasRead {τ : TS} (h : pF τ) {x1 : Int32} {K : TS → Int32 → Prop} (hK : K τ 1) : wp_L_hasRead τ 0 x1 503 K := by
  unfold wp_L_hasRead
  refine ⟨fun τ2 c => τ2 = τ ∧ c = 0, fun τ2 e => e.1 ▸ hK, fun _ e => absurd e.2 (by decide), fun _ cd e => absurd e.2 (Nat.succ_ne_zero _), ?_⟩
  unfold wpx_X8_hasRead
  exact lf_conn h ⟨rfl, rfl⟩
theorem lf_ticksUntil {τ : TS} (h : pF τ) {x1 x2 x3 : Int32} {K : TS → Int32 → Prop} (hK : K τ 1) : wp_L_ticksUntil τ 0 x1 x2 x3 503 K := by
  unfold wp_L_ticksUntil
  refine ⟨fun τ2 c => τ2 = τ ∧ c = 0, fun τ2 e => e.1 ▸ hK, fun _ e => absurd e.2 (by decide), fun _ cd e => absurd e.2 (Nat.succ_ne_zero _), ?_⟩
  unfold wpx_X8_ticksUntil
  exact lf_callr h ⟨rfl, rfl⟩
theorem lf_distanceWithout {τ : TS} (h : pF τ) {x1 x2 x3 : Int32} {K : TS → Int32 → Prop} (hK : K τ 1) : wp_L_distanceWithout τ 0 x1 x2 x3 503 K := by
  unfold wp_L_distanceWithout
  refine ⟨fun τ2 c => τ2 = τ ∧ c = 0, fun τ2 e => e.1 ▸ hK, fun _ e => absurd e.2 (by decide), fun _ cd e => absurd e.2 (Nat.succ_ne_zero _), ?_⟩
  unfold wpx_X8_distanceWithout
  exact lf_link h ⟨rfl, rfl⟩
theorem lf_stateOf {τ : TS} (h : pF τ) {x1 : Int32} {K : TS → Int32 → Prop} (hK : K τ 1) : wp_L_stateOf τ 0 x1 503 K := by
  unfold wp_L_stateOf
  refine ⟨fun τ2 c => τ2 = τ ∧ c = 0, fun τ2 e => e.1 ▸ hK, fun _ e => absurd e.2 (by decide), fun _ cd e => absurd e.2 (Nat.succ_ne_zero _), ?_⟩
  unfold wpx_X8_stateOf
  exact lf_callr h ⟨rfl, rfl⟩
theorem lf_given {τ : TS} (h : pF τ) {x1 : Int32} {K : TS → Int32 → Prop} (hK : K τ 1) : wp_L_given τ 0 x1 503 K := by
  unfold wp_L_given
  refine ⟨fun τ2 c => τ2 = τ ∧ c = 0, fun τ2 e => e.1 ▸ hK, fun _ e => absurd e.2 (by decide), fun _ cd e => absurd e.2 (Nat.succ_ne_zero _), ?_⟩
  unfold wpx_X8_given
  exact lf_callr h ⟨rfl, rfl⟩
theorem lf_base {τ : TS} (h : pF τ) {x1 : Int32} {K : TS → Int32 → Prop} (hK : K τ 1) : wp_L_base τ 0 x1 503 K := by
  unfold wp_L_base
  refine ⟨fun τ2 c => τ2 = τ ∧ c = 0, fun τ2 e => e.1 ▸ hK, fun _ e => absurd e.2 (by decide), fun _ cd e => absurd e.2 (Nat.succ_ne_zero _), ?_⟩
  unfold wpx_X8_base
  exact lf_callr h ⟨rfl, rfl⟩
theorem lf_next {τ : TS} (h : pF τ) {x1 : Int32} {K : TS → Int32 → Prop} (hK : K τ 1) : wp_L_next τ 0 x1 503 K := by
  unfold wp_L_next
  refine ⟨fun τ2 c => τ2 = τ ∧ c = 0, fun τ2 e => e.1 ▸ hK, fun _ e => absurd e.2 (by decide), fun _ cd e => absurd e.2 (Nat.succ_ne_zero _), ?_⟩
  unfold wpx_X8_next
  exact lf_callr h ⟨rfl, rfl⟩
theorem lf_window {τ : TS} (h : pF τ) {x1 : Int32} {K : TS → Int32 → Prop} (hK : K τ 1) : wp_L_window τ 0 x1 503 K := by
  unfold wp_L_window
  refine ⟨fun τ2 c => τ2 = τ ∧ c = 0, fun τ2 e => e.1 ▸ hK, fun _ e => absurd e.2 (by decide), fun _ cd e => absurd e.2 (Nat.succ_ne_zero _), ?_⟩
  unfold wpx_X8_window
  exact lf_callr h ⟨rfl, rfl⟩
theorem lf_threshold {τ : TS} (h : pF τ) {x1 : Int32} {K : TS → Int32 → Prop} (hK : K τ 1) : wp_L_threshold τ 0 x1 503 K := by
  unfold wp_L_threshold
  refine ⟨fun τ2 c => τ2 = τ ∧ c = 0, fun τ2 e => e.1 ▸ hK, fun _ e => absurd e.2 (by decide), fun _ cd e => absurd e.2 (Nat.succ_ne_zero _), ?_⟩
  unfold wpx_X8_threshold
  exact lf_callr h ⟨rfl, rfl⟩
theorem lf_room {τ : TS} (h : pF τ) {x1 : Int32} {K : TS → Int32 → Prop} (hK : K τ 1) : wp_L_room τ 0 x1 503 K := by
  unfold wp_L_room
  refine ⟨fun τ2 c => τ2 = τ ∧ c = 0, fun τ2 e => e.1 ▸ hK, fun _ e => absurd e.2 (by decide), fun _ cd e => absurd e.2 (Nat.succ_ne_zero _), ?_⟩
  unfold wpx_X8_room
  exact lf_callr h ⟨rfl, rfl⟩
theorem lf_like {τ : TS} (h : pF τ) {x1 : Int32} {K : TS → Int32 → Prop} (hK : K τ 1) : wp_L_like τ 0 x1 503 K := by
  unfold wp_L_like
  refine ⟨fun τ2 c => τ2 = τ ∧ c = 0, fun τ2 e => e.1 ▸ hK, fun _ e => absurd e.2 (by decide), fun _ cd e => absurd e.2 (Nat.succ_ne_zero _), ?_⟩
  unfold wpx_X8_like
  exact lf_callr h ⟨rfl, rfl⟩
theorem lf_recover {τ : TS} (h : pF τ) {x1 : Int32} {K : TS → Int32 → Prop} (hK : K τ 1) : wp_L_recover τ 0 x1 503 K := by
  unfold wp_L_recover
  refine ⟨fun τ2 c => τ2 = τ ∧ c = 0, fun τ2 e => e.1 ▸ hK, fun _ e => absurd e.2 (by decide), fun _ cd e => absurd e.2 (Nat.succ_ne_zero _), ?_⟩
  unfold wpx_X8_recover
  exact lf_callr h ⟨rfl, rfl⟩
theorem lf_round {τ : TS} (h : pF τ) {x1 : Int32} {K : TS → Int32 → Prop} (hK : K τ 1) : wp_L_round τ 0 x1 503 K := by
  unfold wp_L_round
  refine ⟨fun τ2 c => τ2 = τ ∧ c = 0, fun τ2 e => e.1 ▸ hK, fun _ e => absurd e.2 (by decide), fun _ cd e => absurd e.2 (Nat.succ_ne_zero _), ?_⟩
  unfold wpx_X8_round
  exact lf_callr h ⟨rfl, rfl⟩
theorem lf_swing {τ : TS} (h : pF τ) {x1 : Int32} {K : TS → Int32 → Prop} (hK : K τ 1) : wp_L_swing τ 0 x1 503 K := by
  unfold wp_L_swing
  refine ⟨fun τ2 c => τ2 = τ ∧ c = 0, fun τ2 e => e.1 ▸ hK, fun _ e => absurd e.2 (by decide), fun _ cd e => absurd e.2 (Nat.succ_ne_zero _), ?_⟩
  unfold wpx_X8_swing
  exact lf_callr h ⟨rfl, rfl⟩
theorem lf_timeout {τ : TS} (h : pF τ) {x1 : Int32} {K : TS → Int32 → Prop} (hK : K τ 1) : wp_L_timeout τ 0 x1 503 K := by
  unfold wp_L_timeout
  refine ⟨fun τ2 c => τ2 = τ ∧ c = 0, fun τ2 e => e.1 ▸ hK, fun _ e => absurd e.2 (by decide), fun _ cd e => absurd e.2 (Nat.succ_ne_zero _), ?_⟩
  unfold wpx_X8_timeout
  exact lf_callr h ⟨rfl, rfl⟩
theorem lf_timer {τ : TS} (h : pF τ) {x1 : Int32} {K : TS → Int32 → Prop} (hK : K τ 1) : wp_L_timer τ 0 x1 503 K := by
  unfold wp_L_timer
  refine ⟨fun τ2 c => τ2 = τ ∧ c = 0, fun τ2 e => e.1 ▸ hK, fun _ e => absurd e.2 (by decide), fun _ cd e => absurd e.2 (Nat.succ_ne_zero _), ?_⟩
  unfold wpx_X8_timer
  exact lf_callr h ⟨rfl, rfl⟩
theorem lf_measured {τ : TS} (h : pF τ) {x1 : Int32} {K : TS → Int32 → Prop} (hK : K τ 1) : wp_L_measured τ 0 x1 503 K := by
  unfold wp_L_measured
  refine ⟨fun τ2 c => τ2 = τ ∧ c = 0, fun τ2 e => e.1 ▸ hK, fun _ e => absurd e.2 (by decide), fun _ cd e => absurd e.2 (Nat.succ_ne_zero _), ?_⟩
  unfold wpx_X8_measured
  exact lf_callr h ⟨rfl, rfl⟩
theorem lf_tries {τ : TS} (h : pF τ) {x1 : Int32} {K : TS → Int32 → Prop} (hK : K τ 1) : wp_L_tries τ 0 x1 503 K := by
  unfold wp_L_tries
  refine ⟨fun τ2 c => τ2 = τ ∧ c = 0, fun τ2 e => e.1 ▸ hK, fun _ e => absurd e.2 (by decide), fun _ cd e => absurd e.2 (Nat.succ_ne_zero _), ?_⟩
  unfold wpx_X8_tries
  exact lf_callr h ⟨rfl, rfl⟩
theorem lf_sentAgain {τ : TS} (h : pF τ) {x1 : Int32} {K : TS → Int32 → Prop} (hK : K τ 1) : wp_L_sentAgain τ 0 x1 503 K := by
  unfold wp_L_sentAgain
  refine ⟨fun τ2 c => τ2 = τ ∧ c = 0, fun τ2 e => e.1 ▸ hK, fun _ e => absurd e.2 (by decide), fun _ cd e => absurd e.2 (Nat.succ_ne_zero _), ?_⟩
  unfold wpx_X8_sentAgain
  exact lf_callr h ⟨rfl, rfl⟩
theorem lf_wanted {τ : TS} (h : pF τ) {x1 : Int32} {K : TS → Int32 → Prop} (hK : K τ 1) : wp_L_wanted τ 0 x1 503 K := by
  unfold wp_L_wanted
  refine ⟨fun τ2 c => τ2 = τ ∧ c = 0, fun τ2 e => e.1 ▸ hK, fun _ e => absurd e.2 (by decide), fun _ cd e => absurd e.2 (Nat.succ_ne_zero _), ?_⟩
  unfold wpx_X8_wanted
  exact lf_conn h ⟨rfl, rfl⟩
/-! the reference's -/
theorem mf_is {τ : TS} {x : Int32} {K : TS → Int32 → Prop} (hK : K τ 0) : wp_X11_is τ x 0 (0 - 1) K := by
  unfold wp_X11_is
  refine ⟨fun _ => hK, fun c => ⟨fun _ => hK, fun c2 => ?_⟩⟩
  exfalso
  simp only [fa_lt, fa_le, fa_eq, q_add, q_sub, q_ite, Int32.reduceToInt] at c c2
  omega
theorem mf_isNode {τ : TS} (h : τ 234 1 = 0) {x : Int32} {K : TS → Int32 → Prop} (hK : K τ 0) : wp_X11_isNode τ 234 x K := by
  unfold wp_X11_isNode
  rw [h]
  exact mf_is ⟨tp_z0, hK⟩
theorem mf_isLink {τ : TS} (h : τ 234 2 = 0) {x : Int32} {K : TS → Int32 → Prop} (hK : K τ 0) : wp_X11_isLink τ 234 x K := by
  unfold wp_X11_isLink
  rw [h]
  exact mf_is ⟨tp_z0, hK⟩
theorem mf_isCall {τ : TS} (h : τ 239 2 = 0) {x : Int32} {K : TS → Int32 → Prop} (hK : K τ 0) : wp_X11_isCall τ 234 x K := by
  unfold wp_X11_isCall
  rw [h]
  exact mf_is ⟨tp_z0, hK⟩
theorem mf_refuse {τ : TS} {K : TS → Int32 → Prop} (hK : ∀ τ2 : TS, τ2 234 0 = 1 → K τ2 0) : wp_X11_refuse τ 234 1 K := by
  unfold wp_X11_refuse
  intro τ2 e
  subst e
  exact hK _ rfl
theorem mf_of {τ : TS} (h : pF τ) {x y : Int32} {K : TS → Int32 → Prop} (hK : ∀ (τ2 : TS) (r : Int32), τ2 234 0 = 1 → K τ2 r) : wp_X11_of τ 234 x y K := by
  unfold wp_X11_of
  intro τ2 e
  refine mf_isCall (τ := τ2) (by rw [e]; exact h.2.2.2.2.2) ?_
  exact ⟨fun _ => mf_refuse (fun _ e => hK _ _ e), fun c => absurd rfl c⟩
theorem mf_hasWay {τ : TS} (h : pF τ) {x y : Int32} {K : TS → Int32 → Prop} (hK : ∀ τ2 : TS, τ2 234 0 = 1 → K τ2 0) : wp_X11_hasWay τ 234 x y K := by
  unfold wp_X11_hasWay
  refine mf_isLink h.2.2.2.2.1 ⟨fun _ τ2 e => ?_, fun c => absurd rfl c⟩
  subst e
  exact ⟨fun _ => hK _ rfl, fun c => absurd (show (1 : Int32) = 0 from c) (by decide)⟩
/-- both have refused -/
theorem lf_end {τ : TS} (h : τ 234 0 = 1) {A : TS → Int32 → Prop} : wp_X11_thrown τ 234 (fun τ25 x => ((x = 1) → (((¬ (1 : Int32) = 0) → True) ∧ (((1 : Int32) = 0) → A τ25 x))) ∧ ((¬ x = 1) → False)) := by
  unfold wp_X11_thrown
  rw [h]
  exact ⟨fun _ => ⟨fun _ => trivial, fun c => absurd c (by decide)⟩, fun c => c rfl⟩
theorem mf_stateOf {τ : TS} (h : pF τ) {x : Int32} {K : TS → Int32 → Prop} (hK : ∀ (τ2 : TS) (r : Int32), τ2 234 0 = 1 → K τ2 r) : wp_X11_stateOf τ 234 x K := by
  unfold wp_X11_stateOf
  exact mf_of h hK
theorem mf_given {τ : TS} (h : pF τ) {x : Int32} {K : TS → Int32 → Prop} (hK : ∀ (τ2 : TS) (r : Int32), τ2 234 0 = 1 → K τ2 r) : wp_X11_given τ 234 x K := by
  unfold wp_X11_given
  exact mf_of h hK
theorem mf_base {τ : TS} (h : pF τ) {x : Int32} {K : TS → Int32 → Prop} (hK : ∀ (τ2 : TS) (r : Int32), τ2 234 0 = 1 → K τ2 r) : wp_X11_base τ 234 x K := by
  unfold wp_X11_base
  exact mf_of h hK
theorem mf_next {τ : TS} (h : pF τ) {x : Int32} {K : TS → Int32 → Prop} (hK : ∀ (τ2 : TS) (r : Int32), τ2 234 0 = 1 → K τ2 r) : wp_X11_next τ 234 x K := by
  unfold wp_X11_next
  exact mf_of h hK
theorem mf_window {τ : TS} (h : pF τ) {x : Int32} {K : TS → Int32 → Prop} (hK : ∀ (τ2 : TS) (r : Int32), τ2 234 0 = 1 → K τ2 r) : wp_X11_window τ 234 x K := by
  unfold wp_X11_window
  exact mf_of h hK
theorem mf_threshold {τ : TS} (h : pF τ) {x : Int32} {K : TS → Int32 → Prop} (hK : ∀ (τ2 : TS) (r : Int32), τ2 234 0 = 1 → K τ2 r) : wp_X11_threshold τ 234 x K := by
  unfold wp_X11_threshold
  exact mf_of h hK
theorem mf_room {τ : TS} (h : pF τ) {x : Int32} {K : TS → Int32 → Prop} (hK : ∀ (τ2 : TS) (r : Int32), τ2 234 0 = 1 → K τ2 r) : wp_X11_room τ 234 x K := by
  unfold wp_X11_room
  exact mf_of h hK
theorem mf_like {τ : TS} (h : pF τ) {x : Int32} {K : TS → Int32 → Prop} (hK : ∀ (τ2 : TS) (r : Int32), τ2 234 0 = 1 → K τ2 r) : wp_X11_like τ 234 x K := by
  unfold wp_X11_like
  exact mf_of h hK
theorem mf_recover {τ : TS} (h : pF τ) {x : Int32} {K : TS → Int32 → Prop} (hK : ∀ (τ2 : TS) (r : Int32), τ2 234 0 = 1 → K τ2 r) : wp_X11_recover τ 234 x K := by
  unfold wp_X11_recover
  exact mf_of h hK
theorem mf_round {τ : TS} (h : pF τ) {x : Int32} {K : TS → Int32 → Prop} (hK : ∀ (τ2 : TS) (r : Int32), τ2 234 0 = 1 → K τ2 r) : wp_X11_round τ 234 x K := by
  unfold wp_X11_round
  exact mf_of h hK
theorem mf_swing {τ : TS} (h : pF τ) {x : Int32} {K : TS → Int32 → Prop} (hK : ∀ (τ2 : TS) (r : Int32), τ2 234 0 = 1 → K τ2 r) : wp_X11_swing τ 234 x K := by
  unfold wp_X11_swing
  exact mf_of h hK
theorem mf_timeout {τ : TS} (h : pF τ) {x : Int32} {K : TS → Int32 → Prop} (hK : ∀ (τ2 : TS) (r : Int32), τ2 234 0 = 1 → K τ2 r) : wp_X11_timeout τ 234 x K := by
  unfold wp_X11_timeout
  exact mf_of h hK
theorem mf_timer {τ : TS} (h : pF τ) {x : Int32} {K : TS → Int32 → Prop} (hK : ∀ (τ2 : TS) (r : Int32), τ2 234 0 = 1 → K τ2 r) : wp_X11_timer τ 234 x K := by
  unfold wp_X11_timer
  exact mf_of h hK
theorem mf_measured {τ : TS} (h : pF τ) {x : Int32} {K : TS → Int32 → Prop} (hK : ∀ (τ2 : TS) (r : Int32), τ2 234 0 = 1 → K τ2 r) : wp_X11_measured τ 234 x K := by
  unfold wp_X11_measured
  exact mf_of h hK
theorem mf_tries {τ : TS} (h : pF τ) {x : Int32} {K : TS → Int32 → Prop} (hK : ∀ (τ2 : TS) (r : Int32), τ2 234 0 = 1 → K τ2 r) : wp_X11_tries τ 234 x K := by
  unfold wp_X11_tries
  exact mf_of h hK
theorem mf_sentAgain {τ : TS} (h : pF τ) {x : Int32} {K : TS → Int32 → Prop} (hK : ∀ (τ2 : TS) (r : Int32), τ2 234 0 = 1 → K τ2 r) : wp_X11_sentAgain τ 234 x K := by
  unfold wp_X11_sentAgain
  exact mf_of h hK
theorem mf_wanted {τ : TS} (h : pF τ) {x : Int32} {K : TS → Int32 → Prop} (hK : ∀ (τ2 : TS) (r : Int32), τ2 234 0 = 1 → K τ2 r) : wp_X11_wanted τ 234 x K := by
  unfold wp_X11_wanted
  exact mf_of h hK
theorem mf_hasRead {τ : TS} (h : pF τ) {x : Int32} {K : TS → Int32 → Prop} (hK : ∀ (τ2 : TS) (r : Int32), τ2 234 0 = 1 → K τ2 r) : wp_X11_hasRead τ 234 x K := by
  unfold wp_X11_hasRead
  exact mf_of h hK
theorem mf_queued {τ : TS} (h : pF τ) {x y : Int32} {K : TS → Int32 → Prop} (hK : ∀ (τ2 : TS) (r : Int32), τ2 234 0 = 1 → K τ2 r) : wp_X11_queued τ 234 x y K := by
  unfold wp_X11_queued
  exact mf_hasWay h (fun τ2 e => ⟨fun _ => hK _ _ e, fun c => absurd rfl c⟩)
theorem mf_flying {τ : TS} (h : pF τ) {x y : Int32} {K : TS → Int32 → Prop} (hK : ∀ (τ2 : TS) (r : Int32), τ2 234 0 = 1 → K τ2 r) : wp_X11_flying τ 234 x y K := by
  unfold wp_X11_flying
  exact mf_hasWay h (fun τ2 e => ⟨fun _ => hK _ _ e, fun c => absurd rfl c⟩)
theorem mf_flown {τ : TS} (h : pF τ) {x y : Int32} {K : TS → Int32 → Prop} (hK : ∀ (τ2 : TS) (r : Int32), τ2 234 0 = 1 → K τ2 r) : wp_X11_flown τ 234 x y K := by
  unfold wp_X11_flown
  exact mf_hasWay h (fun τ2 e => ⟨fun _ => hK _ _ e, fun c => absurd rfl c⟩)
theorem mf_addLink {τ : TS} (h : pF τ) {x1 x2 x3 x4 : Int32} {K : TS → Int32 → Prop} (hK : ∀ (τ2 : TS) (r : Int32), τ2 234 0 = 1 → K τ2 r) : wp_X11_addLink τ 234 x1 x2 x3 x4 K := by
  unfold wp_X11_addLink
  intro τ2 e
  refine mf_isNode (τ := τ2) (by rw [e]; exact h.2.2.2.1) ?_
  first
    | exact ⟨fun _ => mf_refuse (fun _ e => hK _ _ e), fun c => absurd rfl c⟩
    | exact ⟨fun c => absurd rfl c, fun _ => mf_refuse (fun _ e => hK _ _ e)⟩
    | exact ⟨_, fun _ j => j ▸ mf_refuse (fun _ e => hK _ _ e), fun _ => rfl, fun c => absurd rfl c⟩
theorem mf_turn {τ : TS} (h : pF τ) {x1 : Int32} {K : TS → Int32 → Prop} (hK : ∀ (τ2 : TS) (r : Int32), τ2 234 0 = 1 → K τ2 r) : wp_X11_turn τ 234 x1 K := by
  unfold wp_X11_turn
  intro τ2 e
  refine mf_isLink (τ := τ2) (by rw [e]; exact h.2.2.2.2.1) ?_
  first
    | exact ⟨fun _ => mf_refuse (fun _ e => hK _ _ e), fun c => absurd rfl c⟩
    | exact ⟨fun c => absurd rfl c, fun _ => mf_refuse (fun _ e => hK _ _ e)⟩
    | exact ⟨_, fun _ j => j ▸ mf_refuse (fun _ e => hK _ _ e), fun _ => rfl, fun c => absurd rfl c⟩
theorem mf_lose {τ : TS} (h : pF τ) {x1 x2 x3 : Int32} {K : TS → Int32 → Prop} (hK : ∀ (τ2 : TS) (r : Int32), τ2 234 0 = 1 → K τ2 r) : wp_X11_lose τ 234 x1 x2 x3 K := by
  unfold wp_X11_lose
  intro τ2 e
  refine mf_isLink (τ := τ2) (by rw [e]; exact h.2.2.2.2.1) ?_
  first
    | exact ⟨fun _ => mf_refuse (fun _ e => hK _ _ e), fun c => absurd rfl c⟩
    | exact ⟨fun c => absurd rfl c, fun _ => mf_refuse (fun _ e => hK _ _ e)⟩
    | exact ⟨_, fun _ j => j ▸ mf_refuse (fun _ e => hK _ _ e), fun _ => rfl, fun c => absurd rfl c⟩
theorem mf_call {τ : TS} (h : pF τ) {x1 x2 x3 : Int32} {K : TS → Int32 → Prop} (hK : ∀ (τ2 : TS) (r : Int32), τ2 234 0 = 1 → K τ2 r) : wp_X11_call τ 234 x1 x2 x3 K := by
  unfold wp_X11_call
  intro τ2 e
  refine mf_isNode (τ := τ2) (by rw [e]; exact h.2.2.2.1) ?_
  first
    | exact ⟨fun _ => mf_refuse (fun _ e => hK _ _ e), fun c => absurd rfl c⟩
    | exact ⟨fun c => absurd rfl c, fun _ => mf_refuse (fun _ e => hK _ _ e)⟩
    | exact ⟨_, fun _ j => j ▸ mf_refuse (fun _ e => hK _ _ e), fun _ => rfl, fun c => absurd rfl c⟩
theorem mf_give {τ : TS} (h : pF τ) {x1 x2 x3 : Int32} {K : TS → Int32 → Prop} (hK : ∀ (τ2 : TS) (r : Int32), τ2 234 0 = 1 → K τ2 r) : wp_X11_give τ 234 x1 x2 x3 K := by
  unfold wp_X11_give
  intro τ2 e
  refine mf_isCall (τ := τ2) (by rw [e]; exact h.2.2.2.2.2) ?_
  first
    | exact ⟨fun _ => mf_refuse (fun _ e => hK _ _ e), fun c => absurd rfl c⟩
    | exact ⟨fun c => absurd rfl c, fun _ => mf_refuse (fun _ e => hK _ _ e)⟩
    | exact ⟨_, fun _ j => j ▸ mf_refuse (fun _ e => hK _ _ e), fun _ => rfl, fun c => absurd rfl c⟩
theorem mf_close {τ : TS} (h : pF τ) {x1 : Int32} {K : TS → Int32 → Prop} (hK : ∀ (τ2 : TS) (r : Int32), τ2 234 0 = 1 → K τ2 r) : wp_X11_close τ 234 x1 K := by
  unfold wp_X11_close
  intro τ2 e
  refine mf_isCall (τ := τ2) (by rw [e]; exact h.2.2.2.2.2) ?_
  first
    | exact ⟨fun _ => mf_refuse (fun _ e => hK _ _ e), fun c => absurd rfl c⟩
    | exact ⟨fun c => absurd rfl c, fun _ => mf_refuse (fun _ e => hK _ _ e)⟩
    | exact ⟨_, fun _ j => j ▸ mf_refuse (fun _ e => hK _ _ e), fun _ => rfl, fun c => absurd rfl c⟩
theorem mf_read {τ : TS} (h : pF τ) {x1 x2 : Int32} {K : TS → Int32 → Prop} (hK : ∀ (τ2 : TS) (r : Int32), τ2 234 0 = 1 → K τ2 r) : wp_X11_read τ 234 x1 x2 K := by
  unfold wp_X11_read
  intro τ2 e
  refine mf_isCall (τ := τ2) (by rw [e]; exact h.2.2.2.2.2) ?_
  first
    | exact ⟨fun _ => mf_refuse (fun _ e => hK _ _ e), fun c => absurd rfl c⟩
    | exact ⟨fun c => absurd rfl c, fun _ => mf_refuse (fun _ e => hK _ _ e)⟩
    | exact ⟨_, fun _ j => j ▸ mf_refuse (fun _ e => hK _ _ e), fun _ => rfl, fun c => absurd rfl c⟩
theorem mf_distance {τ : TS} (h : pF τ) {x1 x2 : Int32} {K : TS → Int32 → Prop} (hK : ∀ (τ2 : TS) (r : Int32), τ2 234 0 = 1 → K τ2 r) : wp_X11_distance τ 234 x1 x2 K := by
  unfold wp_X11_distance
  intro τ2 e
  refine mf_isNode (τ := τ2) (by rw [e]; exact h.2.2.2.1) ?_
  first
    | exact ⟨fun _ => mf_refuse (fun _ e => hK _ _ e), fun c => absurd rfl c⟩
    | exact ⟨fun c => absurd rfl c, fun _ => mf_refuse (fun _ e => hK _ _ e)⟩
    | exact ⟨_, fun _ j => j ▸ mf_refuse (fun _ e => hK _ _ e), fun _ => rfl, fun c => absurd rfl c⟩
theorem mf_nextLink {τ : TS} (h : pF τ) {x1 x2 : Int32} {K : TS → Int32 → Prop} (hK : ∀ (τ2 : TS) (r : Int32), τ2 234 0 = 1 → K τ2 r) : wp_X11_nextLink τ 234 x1 x2 K := by
  unfold wp_X11_nextLink
  intro τ2 e
  refine mf_isNode (τ := τ2) (by rw [e]; exact h.2.2.2.1) ?_
  first
    | exact ⟨fun _ => mf_refuse (fun _ e => hK _ _ e), fun c => absurd rfl c⟩
    | exact ⟨fun c => absurd rfl c, fun _ => mf_refuse (fun _ e => hK _ _ e)⟩
    | exact ⟨_, fun _ j => j ▸ mf_refuse (fun _ e => hK _ _ e), fun _ => rfl, fun c => absurd rfl c⟩
theorem mf_readable {τ : TS} (h : pF τ) {x1 : Int32} {K : TS → Int32 → Prop} (hK : ∀ (τ2 : TS) (r : Int32), τ2 234 0 = 1 → K τ2 r) : wp_X11_readable τ 234 x1 K := by
  unfold wp_X11_readable
  intro τ2 e
  refine mf_isCall (τ := τ2) (by rw [e]; exact h.2.2.2.2.2) ?_
  first
    | exact ⟨fun _ => mf_refuse (fun _ e => hK _ _ e), fun c => absurd rfl c⟩
    | exact ⟨fun c => absurd rfl c, fun _ => mf_refuse (fun _ e => hK _ _ e)⟩
    | exact ⟨_, fun _ j => j ▸ mf_refuse (fun _ e => hK _ _ e), fun _ => rfl, fun c => absurd rfl c⟩
theorem mf_ticksUntil {τ : TS} (h : pF τ) {x1 x2 x3 : Int32} {K : TS → Int32 → Prop} (hK : ∀ (τ2 : TS) (r : Int32), τ2 234 0 = 1 → K τ2 r) : wp_X11_ticksUntil τ 234 x1 x2 x3 K := by
  unfold wp_X11_ticksUntil
  intro τ2 e
  refine mf_isCall (τ := τ2) (by rw [e]; exact h.2.2.2.2.2) ?_
  first
    | exact ⟨fun _ => mf_refuse (fun _ e => hK _ _ e), fun c => absurd rfl c⟩
    | exact ⟨fun c => absurd rfl c, fun _ => mf_refuse (fun _ e => hK _ _ e)⟩
    | exact ⟨_, fun _ j => j ▸ mf_refuse (fun _ e => hK _ _ e), fun _ => rfl, fun c => absurd rfl c⟩
theorem mf_distanceWithout {τ : TS} (h : pF τ) {x1 x2 x3 : Int32} {K : TS → Int32 → Prop} (hK : ∀ (τ2 : TS) (r : Int32), τ2 234 0 = 1 → K τ2 r) : wp_X11_distanceWithout τ 234 x1 x2 x3 K := by
  unfold wp_X11_distanceWithout
  intro τ2 e
  refine mf_isLink (τ := τ2) (by rw [e]; exact h.2.2.2.2.1) ?_
  first
    | exact ⟨fun _ => mf_refuse (fun _ e => hK _ _ e), fun c => absurd rfl c⟩
    | exact ⟨fun c => absurd rfl c, fun _ => mf_refuse (fun _ e => hK _ _ e)⟩
    | exact ⟨_, fun _ j => j ▸ mf_refuse (fun _ e => hK _ _ e), fun _ => rfl, fun c => absurd rfl c⟩
theorem mf_isUp {τ : TS} (h : pF τ) {x : Int32} {K : TS → Int32 → Prop} (hK : ∀ (τ2 : TS) (r : Int32), τ2 234 0 = 1 → K τ2 r) : wp_X11_isUp τ 234 x K := by
  unfold wp_X11_isUp
  refine mf_isLink h.2.2.2.2.1 ⟨fun _ τ2 e => ?_, fun c => absurd rfl c⟩
  subst e
  exact ⟨fun _ => hK _ _ rfl, fun c => absurd (show (1 : Int32) = 0 from c) (by decide)⟩
theorem mf_holds {τ : TS} (h : pF τ) {x y : Int32} {K : TS → Int32 → Prop} (hK : ∀ (τ2 : TS) (r : Int32), τ2 234 0 = 1 → K τ2 r) : wp_X11_holds τ 234 x y K := by
  unfold wp_X11_holds
  refine mf_isCall h.2.2.2.2.2 ⟨fun v => v = 1, fun v e τ2 e2 => ?_, fun _ => rfl, fun c => absurd rfl c⟩
  subst e e2
  exact ⟨fun _ => hK _ _ rfl, fun c => absurd (show (1 : Int32) = 0 from c) (by decide)⟩
