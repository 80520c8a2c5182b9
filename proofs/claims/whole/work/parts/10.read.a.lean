/-! the reference's reader -/
/-! doing what was read -/
