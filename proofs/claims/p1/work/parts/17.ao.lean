theorem zAO_use {B : Array Value} {U : State} (h : zAO U) : (Cond.arrayOver (.array .int)).before B U = true := h
