/-! p26: a place for what comes -/
